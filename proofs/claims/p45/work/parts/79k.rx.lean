/-! 79k.rx -/
section
/-! THE REFERENCE'S READER OF A LAW: LINES, the whole text (laid by wip/pp/p5r.py). -/
section RX
variable {X : Int → Int} {LX d bc bs n : Nat} {K : gm_K} {R : gm_R} {M : gm_M} {Q : gm_Q} {e pt bg dp st b ln : Int} {W : Int → Int}
/-- readLawLine, behind its first letters -/
theorem tr_c274 (hd : 31 ≤ d) (hE : tR n K R M e) (hl : 0 ≤ ln ∧ ln < 12) (hb : 0 ≤ b ∧ b ≤ e) (hst : 0 ≤ st ∧ st ≤ b) (h1 : ∀ p2 bg2 dp2 st2 W2, (g_line (M 231) e b).1 = true → 0 ≤ p2 ∧ p2 ≤ e → tx_g (M 231) e p2 = (g_line (M 231) e b).2 → 0 ≤ st2 ∧ st2 - st ≤ p2 - b ∧ b ≤ p2 → Q (.inl (some (gm_vi 1))) n K R (rm M p2 bg2 dp2 st2 W2)) (h0 : ∀ p2 dp2 st2 W2, ¬ (g_line (M 231) e b).1 = true → Q (.inl (some (gm_vi 0))) n K R (rm M p2 (g_line (M 231) e b).2 dp2 st2 W2)) : gm_Wp X LX d bc bs 274 0 (gm_ent 274 [gm_vr 226, gm_vi ln]) [] n K R (rm M (tx_r (tx_l (M 231)) e b) b dp st W) Q := by
  obtain ⟨-, he0, he4⟩ := tRe hE
  have hp : 0 ≤ tx_r (tx_l (M 231)) e b ∧ tx_r (tx_l (M 231)) e b ≤ e := by have := tx_rb (q := tx_l (M 231)) (e := e) _ b rfl hb.2; omega
  refine gm_sz (gm_p_const (pc := 0) (i := .sipush 1245) (v := gm_vi 1245) (by decide +kernel) (by decide +kernel)) ?_
  refine gm_sz (gm_p_const (pc := 3) (i := .iconst 4) (v := gm_vi 4) (by decide +kernel) (by decide +kernel)) ?_
  refine gm_sz (gm_p_load (pc := 4) (i := .iload_n 1) (sr := 0) (j := 1) (by decide +kernel) rfl rfl rfl) ?_
  refine gm_sz (gm_p_bin (pc := 5) (i := .imul) (f := fun x y => x * y) (by decide +kernel) rfl) ?_
  refine gm_sz (gm_p_bin (pc := 6) (i := .iadd) (f := fun x y => x + y) (by decide +kernel) rfl) ?_
  refine gm_sz (gm_p_stor (pc := 7) (i := .istore_n 2) (sr := 0) (j := 2) (by decide +kernel) rfl (show 3 ≤ _ from Nat.le_of_ble_eq_true rfl) rfl) ?_
  refine gm_sz (gm_p_load (pc := 8) (i := .aload_n 0) (sr := 2) (j := 0) (by decide +kernel) rfl rfl rfl) ?_
  refine gm_sz (fw_gr (pc := 9) (ix := 13) (ci := 11) (j := 1) (r := 227) (by decide +kernel) (tR226 hE) (by decide +kernel) (by decide +kernel) (tRr hE).1) ?_
  refine gm_sz (gm_p_load (pc := 12) (i := .iload_n 2) (sr := 0) (j := 2) (by decide +kernel) rfl rfl rfl) ?_
  refine gm_sz (gm_p_load (pc := 13) (i := .aload_n 0) (sr := 2) (j := 0) (by decide +kernel) rfl rfl rfl) ?_
  refine gm_sz (gm_p_ldcs (pc := 14) (i := .ldc_w 275) (ix := 275) (id := 59) (by decide +kernel) (Or.inr rfl) (by decide +kernel)) ?_
  refine gm_c_virt (k := 226) (ci := 11) (mj := 250) (ix := 134) (pc := 17) (as := [gm_vo 59]) (st := [gm_vi (1245 + (4 * ln)), gm_vr 227]) (d' := d - 1) (bc' := 0) (bs' := 0) (by decide +kernel) (by decide +kernel) (by decide +kernel) (by decide +kernel) (tR226 hE).1 (tR226 hE).2 (by decide) (by decide +kernel) (show 1 = gm_na 250 by decide +kernel) (fw_c1 fw_so) (show 2 ≤ gm_ml 250 by decide +kernel) (Nat.le_of_ble_eq_true rfl) (by omega) (Nat.zero_le _) (Nat.zero_le _) ?_
  refine tr_c250 (by omega) hE (by decide) (show tx_o 59 = wo_fast by decide +kernel) ⟨hb.1, (tx_rb (q := tx_l (M 231)) (e := e) _ b rfl hb.2).1, (tx_rb (q := tx_l (M 231)) (e := e) _ b rfl hb.2).2.1⟩ (fun j1 => ?_) (fun j1 => ?_)
  · show gm_Wp X LX d _ _ 274 20 _ [gm_vi 1, gm_vi (1245 + (4 * ln)), gm_vr 227] n K R _ Q
    have j1 : tx_is (M 231) e b wo_fast := (tr_is hb (by decide)).mp j1
    have q2 : tx_g (M 231) e (tx_r (tx_l (M 231)) e b) = tx_n (M 231) e b := by rw [← tx_s1 j1]; rfl
    have g4 : 0 ≤ tx_n (M 231) e b ∧ tx_n (M 231) e b ≤ e := by have := tx_nb (f := M 231) (b := b) hb.2; have := hb.1; omega
    have g3 : b + 1 ≤ tx_r (tx_l (M 231)) e b := by have := (tx_sb (f := M 231) hb.2).2.2 (g_isb j1); rwa [tx_s1 j1] at this
    refine fw_iffd (cc := .eq) (pc := 20) (off := 7) (by decide +kernel) (by decide) ⟨by decide, by decide⟩ (by decide) ?_
    refine gm_sz (gm_p_const (pc := 23) (i := .iconst 0) (v := gm_vi 0) (by decide +kernel) (by decide +kernel)) ?_
    refine gm_sz (gm_p_goto (pc := 24) (off := 32) (by decide +kernel) (by decide)) ?_
    refine gm_sz (fw_is (pc := 56) (k := 227) (len := 2093) (e0 := 1245 + (4 * ln)) (x := 0) (M' := rm M (tx_r (tx_l (M 231)) e b) b dp st (fun t9 => if t9 = 1245 + (4 * ln) then 0 else W t9)) (by decide +kernel) (tR227 hE).1 (tR227 hE).2 (by decide) ⟨by omega, by omega⟩ rm_W) ?_
    refine gm_sz (gm_p_load (pc := 57) (i := .aload_n 0) (sr := 2) (j := 0) (by decide +kernel) rfl rfl rfl) ?_
    refine gm_sz (fw_gr (pc := 58) (ix := 13) (ci := 11) (j := 1) (r := 227) (by decide +kernel) (tR226 hE) (by decide +kernel) (by decide +kernel) (tRr hE).1) ?_
    refine gm_sz (gm_p_load (pc := 61) (i := .iload_n 2) (sr := 0) (j := 2) (by decide +kernel) rfl rfl rfl) ?_
    refine gm_sz (fw_ia (pc := 62) (k := 227) (len := 2093) (e0 := 1245 + (4 * ln)) (x := 0) (by decide +kernel) (tR227 hE).1 (tR227 hE).2 (by decide) ⟨by omega, by omega⟩ (if_pos rfl)) ?_
    refine fw_iftd (cc := .ge) (pc := 63) (off := 5) (by decide +kernel) (by decide) ⟨by decide, by decide⟩ (by decide) ?_
    refine gm_sz (gm_p_load (pc := 68) (i := .aload_n 0) (sr := 2) (j := 0) (by decide +kernel) rfl rfl rfl) ?_
    refine gm_sz (fw_gr (pc := 69) (ix := 13) (ci := 11) (j := 1) (r := 227) (by decide +kernel) (tR226 hE) (by decide +kernel) (by decide +kernel) (tRr hE).1) ?_
    refine gm_sz (gm_p_load (pc := 72) (i := .iload_n 2) (sr := 0) (j := 2) (by decide +kernel) rfl rfl rfl) ?_
    refine gm_sz (gm_p_const (pc := 73) (i := .iconst 1) (v := gm_vi 1) (by decide +kernel) (by decide +kernel)) ?_
    refine gm_sz (gm_p_bin (pc := 74) (i := .iadd) (f := fun x y => x + y) (by decide +kernel) rfl) ?_
    refine gm_sz (gm_p_load (pc := 75) (i := .aload_n 0) (sr := 2) (j := 0) (by decide +kernel) rfl rfl rfl) ?_
    refine gm_sz (fw_gr (pc := 76) (ix := 13) (ci := 11) (j := 1) (r := 227) (by decide +kernel) (tR226 hE) (by decide +kernel) (by decide +kernel) (tRr hE).1) ?_
    refine gm_sz (gm_p_load (pc := 79) (i := .iload_n 2) (sr := 0) (j := 2) (by decide +kernel) rfl rfl rfl) ?_
    refine gm_sz (fw_ia (pc := 80) (k := 227) (len := 2093) (e0 := 1245 + (4 * ln)) (x := 0) (by decide +kernel) (tR227 hE).1 (tR227 hE).2 (by decide) ⟨by omega, by omega⟩ (if_pos rfl)) ?_
    refine gm_sz (gm_p_const (pc := 81) (i := .iconst 2) (v := gm_vi 2) (by decide +kernel) (by decide +kernel)) ?_
    refine fw_ictd (cc := .ne) (pc := 82) (off := 7) (by decide +kernel) (by decide) ⟨by decide, by decide⟩ ⟨by decide, by decide⟩ (by decide) ?_
    refine gm_sz (gm_p_load (pc := 89) (i := .aload_n 0) (sr := 2) (j := 0) (by decide +kernel) rfl rfl rfl) ?_
    refine gm_sz (gm_p_const (pc := 90) (i := .iconst 0) (v := gm_vi 0) (by decide +kernel) (by decide +kernel)) ?_
    refine gm_sz (gm_p_const (pc := 91) (i := .bipush 20) (v := gm_vi 20) (by decide +kernel) (by decide +kernel)) ?_
    refine gm_sz (gm_p_const (pc := 93) (i := .iconst 3) (v := gm_vi 3) (by decide +kernel) (by decide +kernel)) ?_
    refine gm_c_virt (k := 226) (ci := 11) (mj := 256) (ix := 138) (pc := 94) (as := [gm_vi 0, gm_vi 20, gm_vi 3]) (st := [gm_vi ((1245 + (4 * ln)) + 1), gm_vr 227]) (d' := d - 1) (bc' := 0) (bs' := 0) (by decide +kernel) (by decide +kernel) (by decide +kernel) (by decide +kernel) (tR226 hE).1 (tR226 hE).2 (by decide) (by decide +kernel) (show 3 = gm_na 256 by decide +kernel) (fw_c3 fw_si fw_si fw_si) (show 4 ≤ gm_ml 256 by decide +kernel) (Nat.le_of_ble_eq_true rfl) (by omega) (Nat.zero_le _) (Nat.zero_le _) ?_
    refine tr_c256 (by omega) hE (by decide) (by decide) ⟨by decide, by decide⟩ hp q2 (fun j5 => ?_) (fun j5 p6 => ?_)
    · show gm_Wp X LX d _ _ 274 97 _ [gm_vi (tx_v (M 231) e 3 (tx_n (M 231) e b)), gm_vi ((1245 + (4 * ln)) + 1), gm_vr 227] n K R _ Q
      have j5 : tx_k (M 231) e (tx_n (M 231) e b) = 258 ∧ 0 ≤ tx_v (M 231) e 3 (tx_n (M 231) e b) ∧ tx_v (M 231) e 3 (tx_n (M 231) e b) ≤ 20 := j5
      have g7 : 0 ≤ tx_s (M 231) e (tx_n (M 231) e b) ∧ tx_s (M 231) e (tx_n (M 231) e b) ≤ e := by have := tx_sb (f := M 231) g4.2; have := g4.1; omega
      have g8 : 0 ≤ tx_n (M 231) e (tx_n (M 231) e b) ∧ tx_n (M 231) e (tx_n (M 231) e b) ≤ e := by have := tx_gb (f := M 231) g7.2; have := g7.1; have h9 : tx_n (M 231) e (tx_n (M 231) e b) = tx_g (M 231) e (tx_s (M 231) e (tx_n (M 231) e b)) := rfl; omega
      have j5s := (tx_sb (f := M 231) g4.2).2.2 (tx_kne (f := M 231) (by omega))
      have j5p := (tx_gb (f := M 231) hp.2).1
      rw [q2] at j5p
      have j5v := tx_vb (f := M 231) (e := e) (m := 3) (b := tx_n (M 231) e b) (by decide)
      refine gm_sz (fw_is (pc := 97) (k := 227) (len := 2093) (e0 := (1245 + (4 * ln)) + 1) (x := tx_v (M 231) e 3 (tx_n (M 231) e b)) (M' := rm M (tx_s (M 231) e (tx_n (M 231) e b)) (tx_n (M 231) e b) dp st (fun t9 => if t9 = (1245 + (4 * ln)) + 1 then tx_v (M 231) e 3 (tx_n (M 231) e b) else (fun t9 => if t9 = 1245 + (4 * ln) then 0 else W t9) t9)) (by decide +kernel) (tR227 hE).1 (tR227 hE).2 (by decide) ⟨by omega, by omega⟩ rm_W) ?_
      refine gm_sz (gm_p_load (pc := 98) (i := .aload_n 0) (sr := 2) (j := 0) (by decide +kernel) rfl rfl rfl) ?_
      refine gm_sz (fw_gr (pc := 99) (ix := 13) (ci := 11) (j := 1) (r := 227) (by decide +kernel) (tR226 hE) (by decide +kernel) (by decide +kernel) (tRr hE).1) ?_
      refine gm_sz (gm_p_load (pc := 102) (i := .iload_n 2) (sr := 0) (j := 2) (by decide +kernel) rfl rfl rfl) ?_
      refine gm_sz (gm_p_const (pc := 103) (i := .iconst 1) (v := gm_vi 1) (by decide +kernel) (by decide +kernel)) ?_
      refine gm_sz (gm_p_bin (pc := 104) (i := .iadd) (f := fun x y => x + y) (by decide +kernel) rfl) ?_
      refine gm_sz (fw_ia (pc := 105) (k := 227) (len := 2093) (e0 := (1245 + (4 * ln)) + 1) (x := tx_v (M 231) e 3 (tx_n (M 231) e b)) (by decide +kernel) (tR227 hE).1 (tR227 hE).2 (by decide) ⟨by omega, by omega⟩ (if_pos rfl)) ?_
      refine fw_ift (cc := .ge) (pc := 106) (off := 5) (by decide +kernel) (by decide) ⟨by omega, by omega⟩ (show 0 ≤ (tx_v (M 231) e 3 (tx_n (M 231) e b)) by omega) ?_
      refine gm_sz (gm_p_load (pc := 111) (i := .aload_n 0) (sr := 2) (j := 0) (by decide +kernel) rfl rfl rfl) ?_
      refine gm_sz (fw_gr (pc := 112) (ix := 13) (ci := 11) (j := 1) (r := 227) (by decide +kernel) (tR226 hE) (by decide +kernel) (by decide +kernel) (tRr hE).1) ?_
      refine gm_sz (gm_p_load (pc := 115) (i := .iload_n 2) (sr := 0) (j := 2) (by decide +kernel) rfl rfl rfl) ?_
      refine gm_sz (gm_p_const (pc := 116) (i := .iconst 2) (v := gm_vi 2) (by decide +kernel) (by decide +kernel)) ?_
      refine gm_sz (gm_p_bin (pc := 117) (i := .iadd) (f := fun x y => x + y) (by decide +kernel) rfl) ?_
      refine gm_sz (gm_p_load (pc := 118) (i := .aload_n 0) (sr := 2) (j := 0) (by decide +kernel) rfl rfl rfl) ?_
      refine gm_sz (fw_gi (pc := 119) (ix := 224) (ci := 11) (j := 15) (x := st) (by decide +kernel) (tR226 hE) (by decide +kernel) (by decide +kernel) rfl) ?_
      refine gm_sz (fw_is (pc := 122) (k := 227) (len := 2093) (e0 := (1245 + (4 * ln)) + 2) (x := st) (M' := rm M (tx_s (M 231) e (tx_n (M 231) e b)) (tx_n (M 231) e b) dp st (fun t9 => if t9 = (1245 + (4 * ln)) + 2 then st else (fun t9 => if t9 = (1245 + (4 * ln)) + 1 then tx_v (M 231) e 3 (tx_n (M 231) e b) else (fun t9 => if t9 = 1245 + (4 * ln) then 0 else W t9) t9) t9)) (by decide +kernel) (tR227 hE).1 (tR227 hE).2 (by decide) ⟨by omega, by omega⟩ rm_W) ?_
      refine gm_sz (gm_p_load (pc := 123) (i := .aload_n 0) (sr := 2) (j := 0) (by decide +kernel) rfl rfl rfl) ?_
      refine gm_sz (gm_p_const (pc := 124) (i := .iconst 0) (v := gm_vi 0) (by decide +kernel) (by decide +kernel)) ?_
      refine gm_sz (fw_pi (pc := 125) (ix := 251) (ci := 11) (j := 12) (M' := rm M (tx_s (M 231) e (tx_n (M 231) e b)) (tx_n (M 231) e b) 0 st (fun t9 => if t9 = (1245 + (4 * ln)) + 2 then st else (fun t9 => if t9 = (1245 + (4 * ln)) + 1 then tx_v (M 231) e 3 (tx_n (M 231) e b) else (fun t9 => if t9 = 1245 + (4 * ln) then 0 else W t9) t9) t9)) (by decide +kernel) (tR226 hE) (by decide +kernel) (by decide +kernel) (by decide +kernel) rm_dp) ?_
      refine gm_sz (gm_p_load (pc := 128) (i := .aload_n 0) (sr := 2) (j := 0) (by decide +kernel) rfl rfl rfl) ?_
      refine gm_sz (gm_p_ldcs (pc := 129) (i := .ldc_w 281) (ix := 281) (id := 62) (by decide +kernel) (Or.inr rfl) (by decide +kernel)) ?_
      refine gm_c_virt (k := 226) (ci := 11) (mj := 269) (ix := 170) (pc := 132) (as := [gm_vo 62]) (st := []) (d' := d - 1) (bc' := 0) (bs' := 0) (by decide +kernel) (by decide +kernel) (by decide +kernel) (by decide +kernel) (tR226 hE).1 (tR226 hE).2 (by decide) (by decide +kernel) (show 1 = gm_na 269 by decide +kernel) (fw_c1 fw_so) (show 2 ≤ gm_ml 269 by decide +kernel) (Nat.le_of_ble_eq_true rfl) (by omega) (Nat.zero_le _) (Nat.zero_le _) ?_
      refine tr_c269 (by omega) hE (by decide) (show tx_o 62 = wo_if by decide +kernel) (by decide) g7 rfl (fun j9 => ?_) (fun j9 => ?_)
      · show gm_Wp X LX d _ _ 274 135 _ [gm_vi 1] n K R _ Q
        have j9 : tx_is (M 231) e (tx_n (M 231) e (tx_n (M 231) e b)) wo_if := j9
        have g10 : 0 ≤ tx_s (M 231) e (tx_n (M 231) e (tx_n (M 231) e b)) ∧ tx_s (M 231) e (tx_n (M 231) e (tx_n (M 231) e b)) ≤ e := by have := tx_sb (f := M 231) g8.2; have := g8.1; omega
        have g11 : 0 ≤ tx_n (M 231) e (tx_n (M 231) e (tx_n (M 231) e b)) ∧ tx_n (M 231) e (tx_n (M 231) e (tx_n (M 231) e b)) ≤ e := by have := tx_gb (f := M 231) g10.2; have := g10.1; have h9 : tx_n (M 231) e (tx_n (M 231) e (tx_n (M 231) e b)) = tx_g (M 231) e (tx_s (M 231) e (tx_n (M 231) e (tx_n (M 231) e b))) := rfl; omega
        have j9s := (tx_sb (f := M 231) g8.2).2.2 (g_isb j9)
        have j9p : tx_s (M 231) e (tx_n (M 231) e b) ≤ tx_n (M 231) e (tx_n (M 231) e b) := (tx_gb (f := M 231) g7.2).1
        refine fw_iffd (cc := .eq) (pc := 135) (off := 12) (by decide +kernel) (by decide) ⟨by decide, by decide⟩ (by decide) ?_
        refine gm_sz (gm_p_load (pc := 138) (i := .aload_n 0) (sr := 2) (j := 0) (by decide +kernel) rfl rfl rfl) ?_
        refine gm_c_virt (k := 226) (ci := 11) (mj := 275) (ix := 253) (pc := 139) (as := []) (st := []) (d' := d - 1) (bc' := 0) (bs' := 0) (by decide +kernel) (by decide +kernel) (by decide +kernel) (by decide +kernel) (tR226 hE).1 (tR226 hE).2 (by decide) (by decide +kernel) (show 0 = gm_na 275 by decide +kernel) fw_c0 (show 1 ≤ gm_ml 275 by decide +kernel) (Nat.le_of_ble_eq_true rfl) (by omega) (Nat.zero_le _) (Nat.zero_le _) ?_
        refine tr_cd hE _ _ _ _ _ _ _ _ _ (by omega) g10 rfl (show 0 ≤ _ ∧ _ ≤ tx_s (M 231) e (tx_n (M 231) e (tx_n (M 231) e b)) from ⟨by omega, by omega⟩) (fun p13 x14 s15 W16 j17 q18b q18 t20 => ?_) (fun p13 x22 s15 W16 j17 => ?_)
        · show gm_Wp X LX d _ _ 274 142 _ [gm_vi 1] n K R _ Q
          have j17 : (g_cd (M 231) e 6 (tx_n (M 231) e (tx_n (M 231) e (tx_n (M 231) e b)))).1 = true := j17
          have t20 : 0 ≤ s15 ∧ s15 - _ ≤ p13 - tx_s (M 231) e (tx_n (M 231) e (tx_n (M 231) e b)) ∧ tx_s (M 231) e (tx_n (M 231) e (tx_n (M 231) e b)) ≤ p13 := t20
          have q18 : tx_g (M 231) e p13 = (g_cd (M 231) e 6 (tx_n (M 231) e (tx_n (M 231) e (tx_n (M 231) e b)))).2 := q18
          have g19 : 0 ≤ (g_cd (M 231) e 6 (tx_n (M 231) e (tx_n (M 231) e (tx_n (M 231) e b)))).2 ∧ (g_cd (M 231) e 6 (tx_n (M 231) e (tx_n (M 231) e (tx_n (M 231) e b)))).2 ≤ e := by have := g_cd_in (f := M 231) 6 (tx_n (M 231) e (tx_n (M 231) e (tx_n (M 231) e b))) g11.1 g11.2; have := g11.1; omega
          have i21 := (g_cd_in (f := M 231) 6 (tx_n (M 231) e (tx_n (M 231) e (tx_n (M 231) e b))) g11.1 g11.2)
          have i21 := i21.2.2 j17
          refine fw_iftd (cc := .ne) (pc := 142) (off := 5) (by decide +kernel) (by decide) ⟨by decide, by decide⟩ (by decide) ?_
          refine gm_sz (gm_p_load (pc := 147) (i := .aload_n 0) (sr := 2) (j := 0) (by decide +kernel) rfl rfl rfl) ?_
          refine gm_sz (fw_gr (pc := 148) (ix := 13) (ci := 11) (j := 1) (r := 227) (by decide +kernel) (tR226 hE) (by decide +kernel) (by decide +kernel) (tRr hE).1) ?_
          refine gm_sz (gm_p_load (pc := 151) (i := .iload_n 2) (sr := 0) (j := 2) (by decide +kernel) rfl rfl rfl) ?_
          refine gm_sz (gm_p_const (pc := 152) (i := .iconst 3) (v := gm_vi 3) (by decide +kernel) (by decide +kernel)) ?_
          refine gm_sz (gm_p_bin (pc := 153) (i := .iadd) (f := fun x y => x + y) (by decide +kernel) rfl) ?_
          refine gm_sz (gm_p_load (pc := 154) (i := .aload_n 0) (sr := 2) (j := 0) (by decide +kernel) rfl rfl rfl) ?_
          refine gm_sz (fw_gi (pc := 155) (ix := 224) (ci := 11) (j := 15) (x := s15) (by decide +kernel) (tR226 hE) (by decide +kernel) (by decide +kernel) rfl) ?_
          refine gm_sz (fw_is (pc := 158) (k := 227) (len := 2093) (e0 := (1245 + (4 * ln)) + 3) (x := s15) (M' := rm M p13 x14 0 s15 (fun t9 => if t9 = (1245 + (4 * ln)) + 3 then s15 else W16 t9)) (by decide +kernel) (tR227 hE).1 (tR227 hE).2 (by decide) ⟨by omega, by omega⟩ rm_W) ?_
          refine gm_sz (gm_p_const (pc := 159) (i := .iconst 1) (v := gm_vi 1) (by decide +kernel) (by decide +kernel)) ?_
          rw [g_n2 (Or.inl j1) j5, g_f1 j9] at h1
          exact gm_r_int (pc := 160) (by decide +kernel) (Or.inr ⟨(by decide +kernel), Or.inr rfl⟩) (h1 _ _ _ _ _ j17 q18b q18 ⟨by omega, by omega, by omega⟩)
        · show gm_Wp X LX d _ _ 274 142 _ [gm_vi 0] n K R _ Q
          have j17 : ¬ (g_cd (M 231) e 6 (tx_n (M 231) e (tx_n (M 231) e (tx_n (M 231) e b)))).1 = true := j17
          have g19 : 0 ≤ (g_cd (M 231) e 6 (tx_n (M 231) e (tx_n (M 231) e (tx_n (M 231) e b)))).2 ∧ (g_cd (M 231) e 6 (tx_n (M 231) e (tx_n (M 231) e (tx_n (M 231) e b)))).2 ≤ e := by have := g_cd_in (f := M 231) 6 (tx_n (M 231) e (tx_n (M 231) e (tx_n (M 231) e b))) g11.1 g11.2; have := g11.1; omega
          refine fw_iffd (cc := .ne) (pc := 142) (off := 5) (by decide +kernel) (by decide) ⟨by decide, by decide⟩ (by decide) ?_
          refine gm_sz (gm_p_const (pc := 145) (i := .iconst 0) (v := gm_vi 0) (by decide +kernel) (by decide +kernel)) ?_
          rw [g_n2 (Or.inl j1) j5, g_f1 j9] at h0
          exact gm_r_int (pc := 146) (by decide +kernel) (Or.inr ⟨(by decide +kernel), Or.inl rfl⟩) (h0 _ _ _ _ j17)
      · show gm_Wp X LX d _ _ 274 135 _ [gm_vi 0] n K R _ Q
        have j9 : ¬ tx_is (M 231) e (tx_n (M 231) e (tx_n (M 231) e b)) wo_if := j9
        have q12 : tx_g (M 231) e (tx_n (M 231) e (tx_n (M 231) e b)) = tx_n (M 231) e (tx_n (M 231) e b) := tx_gi (f := M 231) g7.2
        have q12p : tx_s (M 231) e (tx_n (M 231) e b) ≤ tx_n (M 231) e (tx_n (M 231) e b) := (tx_gb (f := M 231) g7.2).1
        refine fw_iftd (cc := .eq) (pc := 135) (off := 12) (by decide +kernel) (by decide) ⟨by decide, by decide⟩ (by decide) ?_
        refine gm_sz (gm_p_load (pc := 147) (i := .aload_n 0) (sr := 2) (j := 0) (by decide +kernel) rfl rfl rfl) ?_
        refine gm_sz (fw_gr (pc := 148) (ix := 13) (ci := 11) (j := 1) (r := 227) (by decide +kernel) (tR226 hE) (by decide +kernel) (by decide +kernel) (tRr hE).1) ?_
        refine gm_sz (gm_p_load (pc := 151) (i := .iload_n 2) (sr := 0) (j := 2) (by decide +kernel) rfl rfl rfl) ?_
        refine gm_sz (gm_p_const (pc := 152) (i := .iconst 3) (v := gm_vi 3) (by decide +kernel) (by decide +kernel)) ?_
        refine gm_sz (gm_p_bin (pc := 153) (i := .iadd) (f := fun x y => x + y) (by decide +kernel) rfl) ?_
        refine gm_sz (gm_p_load (pc := 154) (i := .aload_n 0) (sr := 2) (j := 0) (by decide +kernel) rfl rfl rfl) ?_
        refine gm_sz (fw_gi (pc := 155) (ix := 224) (ci := 11) (j := 15) (x := st) (by decide +kernel) (tR226 hE) (by decide +kernel) (by decide +kernel) rfl) ?_
        refine gm_sz (fw_is (pc := 158) (k := 227) (len := 2093) (e0 := (1245 + (4 * ln)) + 3) (x := st) (M' := rm M (tx_n (M 231) e (tx_n (M 231) e b)) (tx_n (M 231) e (tx_n (M 231) e b)) 0 st (fun t9 => if t9 = (1245 + (4 * ln)) + 3 then st else (fun t9 => if t9 = (1245 + (4 * ln)) + 2 then st else (fun t9 => if t9 = (1245 + (4 * ln)) + 1 then tx_v (M 231) e 3 (tx_n (M 231) e b) else (fun t9 => if t9 = 1245 + (4 * ln) then 0 else W t9) t9) t9) t9)) (by decide +kernel) (tR227 hE).1 (tR227 hE).2 (by decide) ⟨by omega, by omega⟩ rm_W) ?_
        refine gm_sz (gm_p_const (pc := 159) (i := .iconst 1) (v := gm_vi 1) (by decide +kernel) (by decide +kernel)) ?_
        rw [g_n2 (Or.inl j1) j5, g_f0 j9] at h1
        exact gm_r_int (pc := 160) (by decide +kernel) (Or.inr ⟨(by decide +kernel), Or.inr rfl⟩) (h1 _ _ _ _ _ rfl g8 q12 ⟨by omega, by omega, by omega⟩)
    · show gm_Wp X LX d _ _ 274 97 _ [gm_vi (-1), gm_vi ((1245 + (4 * ln)) + 1), gm_vr 227] n K R _ Q
      have j5 : ¬ (tx_k (M 231) e (tx_n (M 231) e b) = 258 ∧ 0 ≤ tx_v (M 231) e 3 (tx_n (M 231) e b) ∧ tx_v (M 231) e 3 (tx_n (M 231) e b) ≤ 20) := j5
      refine gm_sz (fw_is (pc := 97) (k := 227) (len := 2093) (e0 := (1245 + (4 * ln)) + 1) (x := (-1)) (M' := rm M p6 (tx_n (M 231) e b) dp st (fun t9 => if t9 = (1245 + (4 * ln)) + 1 then (-1) else (fun t9 => if t9 = 1245 + (4 * ln) then 0 else W t9) t9)) (by decide +kernel) (tR227 hE).1 (tR227 hE).2 (by decide) ⟨by omega, by omega⟩ rm_W) ?_
      refine gm_sz (gm_p_load (pc := 98) (i := .aload_n 0) (sr := 2) (j := 0) (by decide +kernel) rfl rfl rfl) ?_
      refine gm_sz (fw_gr (pc := 99) (ix := 13) (ci := 11) (j := 1) (r := 227) (by decide +kernel) (tR226 hE) (by decide +kernel) (by decide +kernel) (tRr hE).1) ?_
      refine gm_sz (gm_p_load (pc := 102) (i := .iload_n 2) (sr := 0) (j := 2) (by decide +kernel) rfl rfl rfl) ?_
      refine gm_sz (gm_p_const (pc := 103) (i := .iconst 1) (v := gm_vi 1) (by decide +kernel) (by decide +kernel)) ?_
      refine gm_sz (gm_p_bin (pc := 104) (i := .iadd) (f := fun x y => x + y) (by decide +kernel) rfl) ?_
      refine gm_sz (fw_ia (pc := 105) (k := 227) (len := 2093) (e0 := (1245 + (4 * ln)) + 1) (x := (-1)) (by decide +kernel) (tR227 hE).1 (tR227 hE).2 (by decide) ⟨by omega, by omega⟩ (if_pos rfl)) ?_
      refine fw_iffd (cc := .ge) (pc := 106) (off := 5) (by decide +kernel) (by decide) ⟨by decide, by decide⟩ (by decide) ?_
      refine gm_sz (gm_p_const (pc := 109) (i := .iconst 0) (v := gm_vi 0) (by decide +kernel) (by decide +kernel)) ?_
      rw [g_n3 (Or.inl j1) j5] at h0
      exact gm_r_int (pc := 110) (by decide +kernel) (Or.inr ⟨(by decide +kernel), Or.inl rfl⟩) (h0 _ _ _ _ (fun h => by cases h))
  · show gm_Wp X LX d _ _ 274 20 _ [gm_vi 0, gm_vi (1245 + (4 * ln)), gm_vr 227] n K R _ Q
    have j1 : ¬ tx_is (M 231) e b wo_fast := fun hh => j1 ((tr_is hb (by decide)).mpr hh)
    refine fw_iftd (cc := .eq) (pc := 20) (off := 7) (by decide +kernel) (by decide) ⟨by decide, by decide⟩ (by decide) ?_
    refine gm_sz (gm_p_load (pc := 27) (i := .aload_n 0) (sr := 2) (j := 0) (by decide +kernel) rfl rfl rfl) ?_
    refine gm_sz (gm_p_ldcs (pc := 28) (i := .ldc_w 277) (ix := 277) (id := 60) (by decide +kernel) (Or.inr rfl) (by decide +kernel)) ?_
    refine gm_c_virt (k := 226) (ci := 11) (mj := 250) (ix := 134) (pc := 31) (as := [gm_vo 60]) (st := [gm_vi (1245 + (4 * ln)), gm_vr 227]) (d' := d - 1) (bc' := 0) (bs' := 0) (by decide +kernel) (by decide +kernel) (by decide +kernel) (by decide +kernel) (tR226 hE).1 (tR226 hE).2 (by decide) (by decide +kernel) (show 1 = gm_na 250 by decide +kernel) (fw_c1 fw_so) (show 2 ≤ gm_ml 250 by decide +kernel) (Nat.le_of_ble_eq_true rfl) (by omega) (Nat.zero_le _) (Nat.zero_le _) ?_
    refine tr_c250 (by omega) hE (by decide) (show tx_o 60 = wo_slow by decide +kernel) ⟨hb.1, (tx_rb (q := tx_l (M 231)) (e := e) _ b rfl hb.2).1, (tx_rb (q := tx_l (M 231)) (e := e) _ b rfl hb.2).2.1⟩ (fun j23 => ?_) (fun j23 => ?_)
    · show gm_Wp X LX d _ _ 274 34 _ [gm_vi 1, gm_vi (1245 + (4 * ln)), gm_vr 227] n K R _ Q
      have j23 : tx_is (M 231) e b wo_slow := (tr_is hb (by decide)).mp j23
      have q24 : tx_g (M 231) e (tx_r (tx_l (M 231)) e b) = tx_n (M 231) e b := by rw [← tx_s1 j23]; rfl
      have g26 : 0 ≤ tx_n (M 231) e b ∧ tx_n (M 231) e b ≤ e := by have := tx_nb (f := M 231) (b := b) hb.2; have := hb.1; omega
      have g25 : b + 1 ≤ tx_r (tx_l (M 231)) e b := by have := (tx_sb (f := M 231) hb.2).2.2 (g_isb j23); rwa [tx_s1 j23] at this
      refine fw_iffd (cc := .eq) (pc := 34) (off := 7) (by decide +kernel) (by decide) ⟨by decide, by decide⟩ (by decide) ?_
      refine gm_sz (gm_p_const (pc := 37) (i := .iconst 1) (v := gm_vi 1) (by decide +kernel) (by decide +kernel)) ?_
      refine gm_sz (gm_p_goto (pc := 38) (off := 18) (by decide +kernel) (by decide)) ?_
      refine gm_sz (fw_is (pc := 56) (k := 227) (len := 2093) (e0 := 1245 + (4 * ln)) (x := 1) (M' := rm M (tx_r (tx_l (M 231)) e b) b dp st (fun t9 => if t9 = 1245 + (4 * ln) then 1 else W t9)) (by decide +kernel) (tR227 hE).1 (tR227 hE).2 (by decide) ⟨by omega, by omega⟩ rm_W) ?_
      refine gm_sz (gm_p_load (pc := 57) (i := .aload_n 0) (sr := 2) (j := 0) (by decide +kernel) rfl rfl rfl) ?_
      refine gm_sz (fw_gr (pc := 58) (ix := 13) (ci := 11) (j := 1) (r := 227) (by decide +kernel) (tR226 hE) (by decide +kernel) (by decide +kernel) (tRr hE).1) ?_
      refine gm_sz (gm_p_load (pc := 61) (i := .iload_n 2) (sr := 0) (j := 2) (by decide +kernel) rfl rfl rfl) ?_
      refine gm_sz (fw_ia (pc := 62) (k := 227) (len := 2093) (e0 := 1245 + (4 * ln)) (x := 1) (by decide +kernel) (tR227 hE).1 (tR227 hE).2 (by decide) ⟨by omega, by omega⟩ (if_pos rfl)) ?_
      refine fw_iftd (cc := .ge) (pc := 63) (off := 5) (by decide +kernel) (by decide) ⟨by decide, by decide⟩ (by decide) ?_
      refine gm_sz (gm_p_load (pc := 68) (i := .aload_n 0) (sr := 2) (j := 0) (by decide +kernel) rfl rfl rfl) ?_
      refine gm_sz (fw_gr (pc := 69) (ix := 13) (ci := 11) (j := 1) (r := 227) (by decide +kernel) (tR226 hE) (by decide +kernel) (by decide +kernel) (tRr hE).1) ?_
      refine gm_sz (gm_p_load (pc := 72) (i := .iload_n 2) (sr := 0) (j := 2) (by decide +kernel) rfl rfl rfl) ?_
      refine gm_sz (gm_p_const (pc := 73) (i := .iconst 1) (v := gm_vi 1) (by decide +kernel) (by decide +kernel)) ?_
      refine gm_sz (gm_p_bin (pc := 74) (i := .iadd) (f := fun x y => x + y) (by decide +kernel) rfl) ?_
      refine gm_sz (gm_p_load (pc := 75) (i := .aload_n 0) (sr := 2) (j := 0) (by decide +kernel) rfl rfl rfl) ?_
      refine gm_sz (fw_gr (pc := 76) (ix := 13) (ci := 11) (j := 1) (r := 227) (by decide +kernel) (tR226 hE) (by decide +kernel) (by decide +kernel) (tRr hE).1) ?_
      refine gm_sz (gm_p_load (pc := 79) (i := .iload_n 2) (sr := 0) (j := 2) (by decide +kernel) rfl rfl rfl) ?_
      refine gm_sz (fw_ia (pc := 80) (k := 227) (len := 2093) (e0 := 1245 + (4 * ln)) (x := 1) (by decide +kernel) (tR227 hE).1 (tR227 hE).2 (by decide) ⟨by omega, by omega⟩ (if_pos rfl)) ?_
      refine gm_sz (gm_p_const (pc := 81) (i := .iconst 2) (v := gm_vi 2) (by decide +kernel) (by decide +kernel)) ?_
      refine fw_ictd (cc := .ne) (pc := 82) (off := 7) (by decide +kernel) (by decide) ⟨by decide, by decide⟩ ⟨by decide, by decide⟩ (by decide) ?_
      refine gm_sz (gm_p_load (pc := 89) (i := .aload_n 0) (sr := 2) (j := 0) (by decide +kernel) rfl rfl rfl) ?_
      refine gm_sz (gm_p_const (pc := 90) (i := .iconst 0) (v := gm_vi 0) (by decide +kernel) (by decide +kernel)) ?_
      refine gm_sz (gm_p_const (pc := 91) (i := .bipush 20) (v := gm_vi 20) (by decide +kernel) (by decide +kernel)) ?_
      refine gm_sz (gm_p_const (pc := 93) (i := .iconst 3) (v := gm_vi 3) (by decide +kernel) (by decide +kernel)) ?_
      refine gm_c_virt (k := 226) (ci := 11) (mj := 256) (ix := 138) (pc := 94) (as := [gm_vi 0, gm_vi 20, gm_vi 3]) (st := [gm_vi ((1245 + (4 * ln)) + 1), gm_vr 227]) (d' := d - 1) (bc' := 0) (bs' := 0) (by decide +kernel) (by decide +kernel) (by decide +kernel) (by decide +kernel) (tR226 hE).1 (tR226 hE).2 (by decide) (by decide +kernel) (show 3 = gm_na 256 by decide +kernel) (fw_c3 fw_si fw_si fw_si) (show 4 ≤ gm_ml 256 by decide +kernel) (Nat.le_of_ble_eq_true rfl) (by omega) (Nat.zero_le _) (Nat.zero_le _) ?_
      refine tr_c256 (by omega) hE (by decide) (by decide) ⟨by decide, by decide⟩ hp q24 (fun j27 => ?_) (fun j27 p28 => ?_)
      · show gm_Wp X LX d _ _ 274 97 _ [gm_vi (tx_v (M 231) e 3 (tx_n (M 231) e b)), gm_vi ((1245 + (4 * ln)) + 1), gm_vr 227] n K R _ Q
        have j27 : tx_k (M 231) e (tx_n (M 231) e b) = 258 ∧ 0 ≤ tx_v (M 231) e 3 (tx_n (M 231) e b) ∧ tx_v (M 231) e 3 (tx_n (M 231) e b) ≤ 20 := j27
        have g29 : 0 ≤ tx_s (M 231) e (tx_n (M 231) e b) ∧ tx_s (M 231) e (tx_n (M 231) e b) ≤ e := by have := tx_sb (f := M 231) g26.2; have := g26.1; omega
        have g30 : 0 ≤ tx_n (M 231) e (tx_n (M 231) e b) ∧ tx_n (M 231) e (tx_n (M 231) e b) ≤ e := by have := tx_gb (f := M 231) g29.2; have := g29.1; have h9 : tx_n (M 231) e (tx_n (M 231) e b) = tx_g (M 231) e (tx_s (M 231) e (tx_n (M 231) e b)) := rfl; omega
        have j27s := (tx_sb (f := M 231) g26.2).2.2 (tx_kne (f := M 231) (by omega))
        have j27p := (tx_gb (f := M 231) hp.2).1
        rw [q24] at j27p
        have j27v := tx_vb (f := M 231) (e := e) (m := 3) (b := tx_n (M 231) e b) (by decide)
        refine gm_sz (fw_is (pc := 97) (k := 227) (len := 2093) (e0 := (1245 + (4 * ln)) + 1) (x := tx_v (M 231) e 3 (tx_n (M 231) e b)) (M' := rm M (tx_s (M 231) e (tx_n (M 231) e b)) (tx_n (M 231) e b) dp st (fun t9 => if t9 = (1245 + (4 * ln)) + 1 then tx_v (M 231) e 3 (tx_n (M 231) e b) else (fun t9 => if t9 = 1245 + (4 * ln) then 1 else W t9) t9)) (by decide +kernel) (tR227 hE).1 (tR227 hE).2 (by decide) ⟨by omega, by omega⟩ rm_W) ?_
        refine gm_sz (gm_p_load (pc := 98) (i := .aload_n 0) (sr := 2) (j := 0) (by decide +kernel) rfl rfl rfl) ?_
        refine gm_sz (fw_gr (pc := 99) (ix := 13) (ci := 11) (j := 1) (r := 227) (by decide +kernel) (tR226 hE) (by decide +kernel) (by decide +kernel) (tRr hE).1) ?_
        refine gm_sz (gm_p_load (pc := 102) (i := .iload_n 2) (sr := 0) (j := 2) (by decide +kernel) rfl rfl rfl) ?_
        refine gm_sz (gm_p_const (pc := 103) (i := .iconst 1) (v := gm_vi 1) (by decide +kernel) (by decide +kernel)) ?_
        refine gm_sz (gm_p_bin (pc := 104) (i := .iadd) (f := fun x y => x + y) (by decide +kernel) rfl) ?_
        refine gm_sz (fw_ia (pc := 105) (k := 227) (len := 2093) (e0 := (1245 + (4 * ln)) + 1) (x := tx_v (M 231) e 3 (tx_n (M 231) e b)) (by decide +kernel) (tR227 hE).1 (tR227 hE).2 (by decide) ⟨by omega, by omega⟩ (if_pos rfl)) ?_
        refine fw_ift (cc := .ge) (pc := 106) (off := 5) (by decide +kernel) (by decide) ⟨by omega, by omega⟩ (show 0 ≤ (tx_v (M 231) e 3 (tx_n (M 231) e b)) by omega) ?_
        refine gm_sz (gm_p_load (pc := 111) (i := .aload_n 0) (sr := 2) (j := 0) (by decide +kernel) rfl rfl rfl) ?_
        refine gm_sz (fw_gr (pc := 112) (ix := 13) (ci := 11) (j := 1) (r := 227) (by decide +kernel) (tR226 hE) (by decide +kernel) (by decide +kernel) (tRr hE).1) ?_
        refine gm_sz (gm_p_load (pc := 115) (i := .iload_n 2) (sr := 0) (j := 2) (by decide +kernel) rfl rfl rfl) ?_
        refine gm_sz (gm_p_const (pc := 116) (i := .iconst 2) (v := gm_vi 2) (by decide +kernel) (by decide +kernel)) ?_
        refine gm_sz (gm_p_bin (pc := 117) (i := .iadd) (f := fun x y => x + y) (by decide +kernel) rfl) ?_
        refine gm_sz (gm_p_load (pc := 118) (i := .aload_n 0) (sr := 2) (j := 0) (by decide +kernel) rfl rfl rfl) ?_
        refine gm_sz (fw_gi (pc := 119) (ix := 224) (ci := 11) (j := 15) (x := st) (by decide +kernel) (tR226 hE) (by decide +kernel) (by decide +kernel) rfl) ?_
        refine gm_sz (fw_is (pc := 122) (k := 227) (len := 2093) (e0 := (1245 + (4 * ln)) + 2) (x := st) (M' := rm M (tx_s (M 231) e (tx_n (M 231) e b)) (tx_n (M 231) e b) dp st (fun t9 => if t9 = (1245 + (4 * ln)) + 2 then st else (fun t9 => if t9 = (1245 + (4 * ln)) + 1 then tx_v (M 231) e 3 (tx_n (M 231) e b) else (fun t9 => if t9 = 1245 + (4 * ln) then 1 else W t9) t9) t9)) (by decide +kernel) (tR227 hE).1 (tR227 hE).2 (by decide) ⟨by omega, by omega⟩ rm_W) ?_
        refine gm_sz (gm_p_load (pc := 123) (i := .aload_n 0) (sr := 2) (j := 0) (by decide +kernel) rfl rfl rfl) ?_
        refine gm_sz (gm_p_const (pc := 124) (i := .iconst 0) (v := gm_vi 0) (by decide +kernel) (by decide +kernel)) ?_
        refine gm_sz (fw_pi (pc := 125) (ix := 251) (ci := 11) (j := 12) (M' := rm M (tx_s (M 231) e (tx_n (M 231) e b)) (tx_n (M 231) e b) 0 st (fun t9 => if t9 = (1245 + (4 * ln)) + 2 then st else (fun t9 => if t9 = (1245 + (4 * ln)) + 1 then tx_v (M 231) e 3 (tx_n (M 231) e b) else (fun t9 => if t9 = 1245 + (4 * ln) then 1 else W t9) t9) t9)) (by decide +kernel) (tR226 hE) (by decide +kernel) (by decide +kernel) (by decide +kernel) rm_dp) ?_
        refine gm_sz (gm_p_load (pc := 128) (i := .aload_n 0) (sr := 2) (j := 0) (by decide +kernel) rfl rfl rfl) ?_
        refine gm_sz (gm_p_ldcs (pc := 129) (i := .ldc_w 281) (ix := 281) (id := 62) (by decide +kernel) (Or.inr rfl) (by decide +kernel)) ?_
        refine gm_c_virt (k := 226) (ci := 11) (mj := 269) (ix := 170) (pc := 132) (as := [gm_vo 62]) (st := []) (d' := d - 1) (bc' := 0) (bs' := 0) (by decide +kernel) (by decide +kernel) (by decide +kernel) (by decide +kernel) (tR226 hE).1 (tR226 hE).2 (by decide) (by decide +kernel) (show 1 = gm_na 269 by decide +kernel) (fw_c1 fw_so) (show 2 ≤ gm_ml 269 by decide +kernel) (Nat.le_of_ble_eq_true rfl) (by omega) (Nat.zero_le _) (Nat.zero_le _) ?_
        refine tr_c269 (by omega) hE (by decide) (show tx_o 62 = wo_if by decide +kernel) (by decide) g29 rfl (fun j31 => ?_) (fun j31 => ?_)
        · show gm_Wp X LX d _ _ 274 135 _ [gm_vi 1] n K R _ Q
          have j31 : tx_is (M 231) e (tx_n (M 231) e (tx_n (M 231) e b)) wo_if := j31
          have g32 : 0 ≤ tx_s (M 231) e (tx_n (M 231) e (tx_n (M 231) e b)) ∧ tx_s (M 231) e (tx_n (M 231) e (tx_n (M 231) e b)) ≤ e := by have := tx_sb (f := M 231) g30.2; have := g30.1; omega
          have g33 : 0 ≤ tx_n (M 231) e (tx_n (M 231) e (tx_n (M 231) e b)) ∧ tx_n (M 231) e (tx_n (M 231) e (tx_n (M 231) e b)) ≤ e := by have := tx_gb (f := M 231) g32.2; have := g32.1; have h9 : tx_n (M 231) e (tx_n (M 231) e (tx_n (M 231) e b)) = tx_g (M 231) e (tx_s (M 231) e (tx_n (M 231) e (tx_n (M 231) e b))) := rfl; omega
          have j31s := (tx_sb (f := M 231) g30.2).2.2 (g_isb j31)
          have j31p : tx_s (M 231) e (tx_n (M 231) e b) ≤ tx_n (M 231) e (tx_n (M 231) e b) := (tx_gb (f := M 231) g29.2).1
          refine fw_iffd (cc := .eq) (pc := 135) (off := 12) (by decide +kernel) (by decide) ⟨by decide, by decide⟩ (by decide) ?_
          refine gm_sz (gm_p_load (pc := 138) (i := .aload_n 0) (sr := 2) (j := 0) (by decide +kernel) rfl rfl rfl) ?_
          refine gm_c_virt (k := 226) (ci := 11) (mj := 275) (ix := 253) (pc := 139) (as := []) (st := []) (d' := d - 1) (bc' := 0) (bs' := 0) (by decide +kernel) (by decide +kernel) (by decide +kernel) (by decide +kernel) (tR226 hE).1 (tR226 hE).2 (by decide) (by decide +kernel) (show 0 = gm_na 275 by decide +kernel) fw_c0 (show 1 ≤ gm_ml 275 by decide +kernel) (Nat.le_of_ble_eq_true rfl) (by omega) (Nat.zero_le _) (Nat.zero_le _) ?_
          refine tr_cd hE _ _ _ _ _ _ _ _ _ (by omega) g32 rfl (show 0 ≤ _ ∧ _ ≤ tx_s (M 231) e (tx_n (M 231) e (tx_n (M 231) e b)) from ⟨by omega, by omega⟩) (fun p35 x36 s37 W38 j39 q40b q40 t42 => ?_) (fun p35 x44 s37 W38 j39 => ?_)
          · show gm_Wp X LX d _ _ 274 142 _ [gm_vi 1] n K R _ Q
            have j39 : (g_cd (M 231) e 6 (tx_n (M 231) e (tx_n (M 231) e (tx_n (M 231) e b)))).1 = true := j39
            have t42 : 0 ≤ s37 ∧ s37 - _ ≤ p35 - tx_s (M 231) e (tx_n (M 231) e (tx_n (M 231) e b)) ∧ tx_s (M 231) e (tx_n (M 231) e (tx_n (M 231) e b)) ≤ p35 := t42
            have q40 : tx_g (M 231) e p35 = (g_cd (M 231) e 6 (tx_n (M 231) e (tx_n (M 231) e (tx_n (M 231) e b)))).2 := q40
            have g41 : 0 ≤ (g_cd (M 231) e 6 (tx_n (M 231) e (tx_n (M 231) e (tx_n (M 231) e b)))).2 ∧ (g_cd (M 231) e 6 (tx_n (M 231) e (tx_n (M 231) e (tx_n (M 231) e b)))).2 ≤ e := by have := g_cd_in (f := M 231) 6 (tx_n (M 231) e (tx_n (M 231) e (tx_n (M 231) e b))) g33.1 g33.2; have := g33.1; omega
            have i43 := (g_cd_in (f := M 231) 6 (tx_n (M 231) e (tx_n (M 231) e (tx_n (M 231) e b))) g33.1 g33.2)
            have i43 := i43.2.2 j39
            refine fw_iftd (cc := .ne) (pc := 142) (off := 5) (by decide +kernel) (by decide) ⟨by decide, by decide⟩ (by decide) ?_
            refine gm_sz (gm_p_load (pc := 147) (i := .aload_n 0) (sr := 2) (j := 0) (by decide +kernel) rfl rfl rfl) ?_
            refine gm_sz (fw_gr (pc := 148) (ix := 13) (ci := 11) (j := 1) (r := 227) (by decide +kernel) (tR226 hE) (by decide +kernel) (by decide +kernel) (tRr hE).1) ?_
            refine gm_sz (gm_p_load (pc := 151) (i := .iload_n 2) (sr := 0) (j := 2) (by decide +kernel) rfl rfl rfl) ?_
            refine gm_sz (gm_p_const (pc := 152) (i := .iconst 3) (v := gm_vi 3) (by decide +kernel) (by decide +kernel)) ?_
            refine gm_sz (gm_p_bin (pc := 153) (i := .iadd) (f := fun x y => x + y) (by decide +kernel) rfl) ?_
            refine gm_sz (gm_p_load (pc := 154) (i := .aload_n 0) (sr := 2) (j := 0) (by decide +kernel) rfl rfl rfl) ?_
            refine gm_sz (fw_gi (pc := 155) (ix := 224) (ci := 11) (j := 15) (x := s37) (by decide +kernel) (tR226 hE) (by decide +kernel) (by decide +kernel) rfl) ?_
            refine gm_sz (fw_is (pc := 158) (k := 227) (len := 2093) (e0 := (1245 + (4 * ln)) + 3) (x := s37) (M' := rm M p35 x36 0 s37 (fun t9 => if t9 = (1245 + (4 * ln)) + 3 then s37 else W38 t9)) (by decide +kernel) (tR227 hE).1 (tR227 hE).2 (by decide) ⟨by omega, by omega⟩ rm_W) ?_
            refine gm_sz (gm_p_const (pc := 159) (i := .iconst 1) (v := gm_vi 1) (by decide +kernel) (by decide +kernel)) ?_
            rw [g_n2 (Or.inr j23) j27, g_f1 j31] at h1
            exact gm_r_int (pc := 160) (by decide +kernel) (Or.inr ⟨(by decide +kernel), Or.inr rfl⟩) (h1 _ _ _ _ _ j39 q40b q40 ⟨by omega, by omega, by omega⟩)
          · show gm_Wp X LX d _ _ 274 142 _ [gm_vi 0] n K R _ Q
            have j39 : ¬ (g_cd (M 231) e 6 (tx_n (M 231) e (tx_n (M 231) e (tx_n (M 231) e b)))).1 = true := j39
            have g41 : 0 ≤ (g_cd (M 231) e 6 (tx_n (M 231) e (tx_n (M 231) e (tx_n (M 231) e b)))).2 ∧ (g_cd (M 231) e 6 (tx_n (M 231) e (tx_n (M 231) e (tx_n (M 231) e b)))).2 ≤ e := by have := g_cd_in (f := M 231) 6 (tx_n (M 231) e (tx_n (M 231) e (tx_n (M 231) e b))) g33.1 g33.2; have := g33.1; omega
            refine fw_iffd (cc := .ne) (pc := 142) (off := 5) (by decide +kernel) (by decide) ⟨by decide, by decide⟩ (by decide) ?_
            refine gm_sz (gm_p_const (pc := 145) (i := .iconst 0) (v := gm_vi 0) (by decide +kernel) (by decide +kernel)) ?_
            rw [g_n2 (Or.inr j23) j27, g_f1 j31] at h0
            exact gm_r_int (pc := 146) (by decide +kernel) (Or.inr ⟨(by decide +kernel), Or.inl rfl⟩) (h0 _ _ _ _ j39)
        · show gm_Wp X LX d _ _ 274 135 _ [gm_vi 0] n K R _ Q
          have j31 : ¬ tx_is (M 231) e (tx_n (M 231) e (tx_n (M 231) e b)) wo_if := j31
          have q34 : tx_g (M 231) e (tx_n (M 231) e (tx_n (M 231) e b)) = tx_n (M 231) e (tx_n (M 231) e b) := tx_gi (f := M 231) g29.2
          have q34p : tx_s (M 231) e (tx_n (M 231) e b) ≤ tx_n (M 231) e (tx_n (M 231) e b) := (tx_gb (f := M 231) g29.2).1
          refine fw_iftd (cc := .eq) (pc := 135) (off := 12) (by decide +kernel) (by decide) ⟨by decide, by decide⟩ (by decide) ?_
          refine gm_sz (gm_p_load (pc := 147) (i := .aload_n 0) (sr := 2) (j := 0) (by decide +kernel) rfl rfl rfl) ?_
          refine gm_sz (fw_gr (pc := 148) (ix := 13) (ci := 11) (j := 1) (r := 227) (by decide +kernel) (tR226 hE) (by decide +kernel) (by decide +kernel) (tRr hE).1) ?_
          refine gm_sz (gm_p_load (pc := 151) (i := .iload_n 2) (sr := 0) (j := 2) (by decide +kernel) rfl rfl rfl) ?_
          refine gm_sz (gm_p_const (pc := 152) (i := .iconst 3) (v := gm_vi 3) (by decide +kernel) (by decide +kernel)) ?_
          refine gm_sz (gm_p_bin (pc := 153) (i := .iadd) (f := fun x y => x + y) (by decide +kernel) rfl) ?_
          refine gm_sz (gm_p_load (pc := 154) (i := .aload_n 0) (sr := 2) (j := 0) (by decide +kernel) rfl rfl rfl) ?_
          refine gm_sz (fw_gi (pc := 155) (ix := 224) (ci := 11) (j := 15) (x := st) (by decide +kernel) (tR226 hE) (by decide +kernel) (by decide +kernel) rfl) ?_
          refine gm_sz (fw_is (pc := 158) (k := 227) (len := 2093) (e0 := (1245 + (4 * ln)) + 3) (x := st) (M' := rm M (tx_n (M 231) e (tx_n (M 231) e b)) (tx_n (M 231) e (tx_n (M 231) e b)) 0 st (fun t9 => if t9 = (1245 + (4 * ln)) + 3 then st else (fun t9 => if t9 = (1245 + (4 * ln)) + 2 then st else (fun t9 => if t9 = (1245 + (4 * ln)) + 1 then tx_v (M 231) e 3 (tx_n (M 231) e b) else (fun t9 => if t9 = 1245 + (4 * ln) then 1 else W t9) t9) t9) t9)) (by decide +kernel) (tR227 hE).1 (tR227 hE).2 (by decide) ⟨by omega, by omega⟩ rm_W) ?_
          refine gm_sz (gm_p_const (pc := 159) (i := .iconst 1) (v := gm_vi 1) (by decide +kernel) (by decide +kernel)) ?_
          rw [g_n2 (Or.inr j23) j27, g_f0 j31] at h1
          exact gm_r_int (pc := 160) (by decide +kernel) (Or.inr ⟨(by decide +kernel), Or.inr rfl⟩) (h1 _ _ _ _ _ rfl g30 q34 ⟨by omega, by omega, by omega⟩)
      · show gm_Wp X LX d _ _ 274 97 _ [gm_vi (-1), gm_vi ((1245 + (4 * ln)) + 1), gm_vr 227] n K R _ Q
        have j27 : ¬ (tx_k (M 231) e (tx_n (M 231) e b) = 258 ∧ 0 ≤ tx_v (M 231) e 3 (tx_n (M 231) e b) ∧ tx_v (M 231) e 3 (tx_n (M 231) e b) ≤ 20) := j27
        refine gm_sz (fw_is (pc := 97) (k := 227) (len := 2093) (e0 := (1245 + (4 * ln)) + 1) (x := (-1)) (M' := rm M p28 (tx_n (M 231) e b) dp st (fun t9 => if t9 = (1245 + (4 * ln)) + 1 then (-1) else (fun t9 => if t9 = 1245 + (4 * ln) then 1 else W t9) t9)) (by decide +kernel) (tR227 hE).1 (tR227 hE).2 (by decide) ⟨by omega, by omega⟩ rm_W) ?_
        refine gm_sz (gm_p_load (pc := 98) (i := .aload_n 0) (sr := 2) (j := 0) (by decide +kernel) rfl rfl rfl) ?_
        refine gm_sz (fw_gr (pc := 99) (ix := 13) (ci := 11) (j := 1) (r := 227) (by decide +kernel) (tR226 hE) (by decide +kernel) (by decide +kernel) (tRr hE).1) ?_
        refine gm_sz (gm_p_load (pc := 102) (i := .iload_n 2) (sr := 0) (j := 2) (by decide +kernel) rfl rfl rfl) ?_
        refine gm_sz (gm_p_const (pc := 103) (i := .iconst 1) (v := gm_vi 1) (by decide +kernel) (by decide +kernel)) ?_
        refine gm_sz (gm_p_bin (pc := 104) (i := .iadd) (f := fun x y => x + y) (by decide +kernel) rfl) ?_
        refine gm_sz (fw_ia (pc := 105) (k := 227) (len := 2093) (e0 := (1245 + (4 * ln)) + 1) (x := (-1)) (by decide +kernel) (tR227 hE).1 (tR227 hE).2 (by decide) ⟨by omega, by omega⟩ (if_pos rfl)) ?_
        refine fw_iffd (cc := .ge) (pc := 106) (off := 5) (by decide +kernel) (by decide) ⟨by decide, by decide⟩ (by decide) ?_
        refine gm_sz (gm_p_const (pc := 109) (i := .iconst 0) (v := gm_vi 0) (by decide +kernel) (by decide +kernel)) ?_
        rw [g_n3 (Or.inr j23) j27] at h0
        exact gm_r_int (pc := 110) (by decide +kernel) (Or.inr ⟨(by decide +kernel), Or.inl rfl⟩) (h0 _ _ _ _ (fun h => by cases h))
    · show gm_Wp X LX d _ _ 274 34 _ [gm_vi 0, gm_vi (1245 + (4 * ln)), gm_vr 227] n K R _ Q
      have j23 : ¬ tx_is (M 231) e b wo_slow := fun hh => j23 ((tr_is hb (by decide)).mpr hh)
      refine fw_iftd (cc := .eq) (pc := 34) (off := 7) (by decide +kernel) (by decide) ⟨by decide, by decide⟩ (by decide) ?_
      refine gm_sz (gm_p_load (pc := 41) (i := .aload_n 0) (sr := 2) (j := 0) (by decide +kernel) rfl rfl rfl) ?_
      refine gm_sz (gm_p_ldcs (pc := 42) (i := .ldc_w 279) (ix := 279) (id := 61) (by decide +kernel) (Or.inr rfl) (by decide +kernel)) ?_
      refine gm_c_virt (k := 226) (ci := 11) (mj := 250) (ix := 134) (pc := 45) (as := [gm_vo 61]) (st := [gm_vi (1245 + (4 * ln)), gm_vr 227]) (d' := d - 1) (bc' := 0) (bs' := 0) (by decide +kernel) (by decide +kernel) (by decide +kernel) (by decide +kernel) (tR226 hE).1 (tR226 hE).2 (by decide) (by decide +kernel) (show 1 = gm_na 250 by decide +kernel) (fw_c1 fw_so) (show 2 ≤ gm_ml 250 by decide +kernel) (Nat.le_of_ble_eq_true rfl) (by omega) (Nat.zero_le _) (Nat.zero_le _) ?_
      refine tr_c250 (by omega) hE (by decide) (show tx_o 61 = wo_open by decide +kernel) ⟨hb.1, (tx_rb (q := tx_l (M 231)) (e := e) _ b rfl hb.2).1, (tx_rb (q := tx_l (M 231)) (e := e) _ b rfl hb.2).2.1⟩ (fun j45 => ?_) (fun j45 => ?_)
      · show gm_Wp X LX d _ _ 274 48 _ [gm_vi 1, gm_vi (1245 + (4 * ln)), gm_vr 227] n K R _ Q
        have j45 : tx_is (M 231) e b wo_open := (tr_is hb (by decide)).mp j45
        have q46 : tx_g (M 231) e (tx_r (tx_l (M 231)) e b) = tx_n (M 231) e b := by rw [← tx_s1 j45]; rfl
        have g48 : 0 ≤ tx_n (M 231) e b ∧ tx_n (M 231) e b ≤ e := by have := tx_nb (f := M 231) (b := b) hb.2; have := hb.1; omega
        have g47 : b + 1 ≤ tx_r (tx_l (M 231)) e b := by have := (tx_sb (f := M 231) hb.2).2.2 (g_isb j45); rwa [tx_s1 j45] at this
        refine fw_iffd (cc := .eq) (pc := 48) (off := 7) (by decide +kernel) (by decide) ⟨by decide, by decide⟩ (by decide) ?_
        refine gm_sz (gm_p_const (pc := 51) (i := .iconst 2) (v := gm_vi 2) (by decide +kernel) (by decide +kernel)) ?_
        refine gm_sz (gm_p_goto (pc := 52) (off := 4) (by decide +kernel) (by decide)) ?_
        refine gm_sz (fw_is (pc := 56) (k := 227) (len := 2093) (e0 := 1245 + (4 * ln)) (x := 2) (M' := rm M (tx_r (tx_l (M 231)) e b) b dp st (fun t9 => if t9 = 1245 + (4 * ln) then 2 else W t9)) (by decide +kernel) (tR227 hE).1 (tR227 hE).2 (by decide) ⟨by omega, by omega⟩ rm_W) ?_
        refine gm_sz (gm_p_load (pc := 57) (i := .aload_n 0) (sr := 2) (j := 0) (by decide +kernel) rfl rfl rfl) ?_
        refine gm_sz (fw_gr (pc := 58) (ix := 13) (ci := 11) (j := 1) (r := 227) (by decide +kernel) (tR226 hE) (by decide +kernel) (by decide +kernel) (tRr hE).1) ?_
        refine gm_sz (gm_p_load (pc := 61) (i := .iload_n 2) (sr := 0) (j := 2) (by decide +kernel) rfl rfl rfl) ?_
        refine gm_sz (fw_ia (pc := 62) (k := 227) (len := 2093) (e0 := 1245 + (4 * ln)) (x := 2) (by decide +kernel) (tR227 hE).1 (tR227 hE).2 (by decide) ⟨by omega, by omega⟩ (if_pos rfl)) ?_
        refine fw_iftd (cc := .ge) (pc := 63) (off := 5) (by decide +kernel) (by decide) ⟨by decide, by decide⟩ (by decide) ?_
        refine gm_sz (gm_p_load (pc := 68) (i := .aload_n 0) (sr := 2) (j := 0) (by decide +kernel) rfl rfl rfl) ?_
        refine gm_sz (fw_gr (pc := 69) (ix := 13) (ci := 11) (j := 1) (r := 227) (by decide +kernel) (tR226 hE) (by decide +kernel) (by decide +kernel) (tRr hE).1) ?_
        refine gm_sz (gm_p_load (pc := 72) (i := .iload_n 2) (sr := 0) (j := 2) (by decide +kernel) rfl rfl rfl) ?_
        refine gm_sz (gm_p_const (pc := 73) (i := .iconst 1) (v := gm_vi 1) (by decide +kernel) (by decide +kernel)) ?_
        refine gm_sz (gm_p_bin (pc := 74) (i := .iadd) (f := fun x y => x + y) (by decide +kernel) rfl) ?_
        refine gm_sz (gm_p_load (pc := 75) (i := .aload_n 0) (sr := 2) (j := 0) (by decide +kernel) rfl rfl rfl) ?_
        refine gm_sz (fw_gr (pc := 76) (ix := 13) (ci := 11) (j := 1) (r := 227) (by decide +kernel) (tR226 hE) (by decide +kernel) (by decide +kernel) (tRr hE).1) ?_
        refine gm_sz (gm_p_load (pc := 79) (i := .iload_n 2) (sr := 0) (j := 2) (by decide +kernel) rfl rfl rfl) ?_
        refine gm_sz (fw_ia (pc := 80) (k := 227) (len := 2093) (e0 := 1245 + (4 * ln)) (x := 2) (by decide +kernel) (tR227 hE).1 (tR227 hE).2 (by decide) ⟨by omega, by omega⟩ (if_pos rfl)) ?_
        refine gm_sz (gm_p_const (pc := 81) (i := .iconst 2) (v := gm_vi 2) (by decide +kernel) (by decide +kernel)) ?_
        refine fw_icfd (cc := .ne) (pc := 82) (off := 7) (by decide +kernel) (by decide) ⟨by decide, by decide⟩ ⟨by decide, by decide⟩ (by decide) ?_
        refine gm_sz (gm_p_const (pc := 85) (i := .iconst 1) (v := gm_vi 1) (by decide +kernel) (by decide +kernel)) ?_
        refine gm_sz (gm_p_goto (pc := 86) (off := 11) (by decide +kernel) (by decide)) ?_
        refine gm_sz (fw_is (pc := 97) (k := 227) (len := 2093) (e0 := (1245 + (4 * ln)) + 1) (x := 1) (M' := rm M (tx_r (tx_l (M 231)) e b) b dp st (fun t9 => if t9 = (1245 + (4 * ln)) + 1 then 1 else (fun t9 => if t9 = 1245 + (4 * ln) then 2 else W t9) t9)) (by decide +kernel) (tR227 hE).1 (tR227 hE).2 (by decide) ⟨by omega, by omega⟩ rm_W) ?_
        refine gm_sz (gm_p_load (pc := 98) (i := .aload_n 0) (sr := 2) (j := 0) (by decide +kernel) rfl rfl rfl) ?_
        refine gm_sz (fw_gr (pc := 99) (ix := 13) (ci := 11) (j := 1) (r := 227) (by decide +kernel) (tR226 hE) (by decide +kernel) (by decide +kernel) (tRr hE).1) ?_
        refine gm_sz (gm_p_load (pc := 102) (i := .iload_n 2) (sr := 0) (j := 2) (by decide +kernel) rfl rfl rfl) ?_
        refine gm_sz (gm_p_const (pc := 103) (i := .iconst 1) (v := gm_vi 1) (by decide +kernel) (by decide +kernel)) ?_
        refine gm_sz (gm_p_bin (pc := 104) (i := .iadd) (f := fun x y => x + y) (by decide +kernel) rfl) ?_
        refine gm_sz (fw_ia (pc := 105) (k := 227) (len := 2093) (e0 := (1245 + (4 * ln)) + 1) (x := 1) (by decide +kernel) (tR227 hE).1 (tR227 hE).2 (by decide) ⟨by omega, by omega⟩ (if_pos rfl)) ?_
        refine fw_iftd (cc := .ge) (pc := 106) (off := 5) (by decide +kernel) (by decide) ⟨by decide, by decide⟩ (by decide) ?_
        refine gm_sz (gm_p_load (pc := 111) (i := .aload_n 0) (sr := 2) (j := 0) (by decide +kernel) rfl rfl rfl) ?_
        refine gm_sz (fw_gr (pc := 112) (ix := 13) (ci := 11) (j := 1) (r := 227) (by decide +kernel) (tR226 hE) (by decide +kernel) (by decide +kernel) (tRr hE).1) ?_
        refine gm_sz (gm_p_load (pc := 115) (i := .iload_n 2) (sr := 0) (j := 2) (by decide +kernel) rfl rfl rfl) ?_
        refine gm_sz (gm_p_const (pc := 116) (i := .iconst 2) (v := gm_vi 2) (by decide +kernel) (by decide +kernel)) ?_
        refine gm_sz (gm_p_bin (pc := 117) (i := .iadd) (f := fun x y => x + y) (by decide +kernel) rfl) ?_
        refine gm_sz (gm_p_load (pc := 118) (i := .aload_n 0) (sr := 2) (j := 0) (by decide +kernel) rfl rfl rfl) ?_
        refine gm_sz (fw_gi (pc := 119) (ix := 224) (ci := 11) (j := 15) (x := st) (by decide +kernel) (tR226 hE) (by decide +kernel) (by decide +kernel) rfl) ?_
        refine gm_sz (fw_is (pc := 122) (k := 227) (len := 2093) (e0 := (1245 + (4 * ln)) + 2) (x := st) (M' := rm M (tx_r (tx_l (M 231)) e b) b dp st (fun t9 => if t9 = (1245 + (4 * ln)) + 2 then st else (fun t9 => if t9 = (1245 + (4 * ln)) + 1 then 1 else (fun t9 => if t9 = 1245 + (4 * ln) then 2 else W t9) t9) t9)) (by decide +kernel) (tR227 hE).1 (tR227 hE).2 (by decide) ⟨by omega, by omega⟩ rm_W) ?_
        refine gm_sz (gm_p_load (pc := 123) (i := .aload_n 0) (sr := 2) (j := 0) (by decide +kernel) rfl rfl rfl) ?_
        refine gm_sz (gm_p_const (pc := 124) (i := .iconst 0) (v := gm_vi 0) (by decide +kernel) (by decide +kernel)) ?_
        refine gm_sz (fw_pi (pc := 125) (ix := 251) (ci := 11) (j := 12) (M' := rm M (tx_r (tx_l (M 231)) e b) b 0 st (fun t9 => if t9 = (1245 + (4 * ln)) + 2 then st else (fun t9 => if t9 = (1245 + (4 * ln)) + 1 then 1 else (fun t9 => if t9 = 1245 + (4 * ln) then 2 else W t9) t9) t9)) (by decide +kernel) (tR226 hE) (by decide +kernel) (by decide +kernel) (by decide +kernel) rm_dp) ?_
        refine gm_sz (gm_p_load (pc := 128) (i := .aload_n 0) (sr := 2) (j := 0) (by decide +kernel) rfl rfl rfl) ?_
        refine gm_sz (gm_p_ldcs (pc := 129) (i := .ldc_w 281) (ix := 281) (id := 62) (by decide +kernel) (Or.inr rfl) (by decide +kernel)) ?_
        refine gm_c_virt (k := 226) (ci := 11) (mj := 269) (ix := 170) (pc := 132) (as := [gm_vo 62]) (st := []) (d' := d - 1) (bc' := 0) (bs' := 0) (by decide +kernel) (by decide +kernel) (by decide +kernel) (by decide +kernel) (tR226 hE).1 (tR226 hE).2 (by decide) (by decide +kernel) (show 1 = gm_na 269 by decide +kernel) (fw_c1 fw_so) (show 2 ≤ gm_ml 269 by decide +kernel) (Nat.le_of_ble_eq_true rfl) (by omega) (Nat.zero_le _) (Nat.zero_le _) ?_
        refine tr_c269 (by omega) hE (by decide) (show tx_o 62 = wo_if by decide +kernel) (by decide) hp q46 (fun j49 => ?_) (fun j49 => ?_)
        · show gm_Wp X LX d _ _ 274 135 _ [gm_vi 1] n K R _ Q
          have j49 : tx_is (M 231) e (tx_n (M 231) e b) wo_if := j49
          have g50 : 0 ≤ tx_s (M 231) e (tx_n (M 231) e b) ∧ tx_s (M 231) e (tx_n (M 231) e b) ≤ e := by have := tx_sb (f := M 231) g48.2; have := g48.1; omega
          have g51 : 0 ≤ tx_n (M 231) e (tx_n (M 231) e b) ∧ tx_n (M 231) e (tx_n (M 231) e b) ≤ e := by have := tx_gb (f := M 231) g50.2; have := g50.1; have h9 : tx_n (M 231) e (tx_n (M 231) e b) = tx_g (M 231) e (tx_s (M 231) e (tx_n (M 231) e b)) := rfl; omega
          have j49s := (tx_sb (f := M 231) g48.2).2.2 (g_isb j49)
          have j49p := (tx_gb (f := M 231) hp.2).1
          rw [q46] at j49p
          refine fw_iffd (cc := .eq) (pc := 135) (off := 12) (by decide +kernel) (by decide) ⟨by decide, by decide⟩ (by decide) ?_
          refine gm_sz (gm_p_load (pc := 138) (i := .aload_n 0) (sr := 2) (j := 0) (by decide +kernel) rfl rfl rfl) ?_
          refine gm_c_virt (k := 226) (ci := 11) (mj := 275) (ix := 253) (pc := 139) (as := []) (st := []) (d' := d - 1) (bc' := 0) (bs' := 0) (by decide +kernel) (by decide +kernel) (by decide +kernel) (by decide +kernel) (tR226 hE).1 (tR226 hE).2 (by decide) (by decide +kernel) (show 0 = gm_na 275 by decide +kernel) fw_c0 (show 1 ≤ gm_ml 275 by decide +kernel) (Nat.le_of_ble_eq_true rfl) (by omega) (Nat.zero_le _) (Nat.zero_le _) ?_
          refine tr_cd hE _ _ _ _ _ _ _ _ _ (by omega) g50 rfl (show 0 ≤ _ ∧ _ ≤ tx_s (M 231) e (tx_n (M 231) e b) from ⟨by omega, by omega⟩) (fun p53 x54 s55 W56 j57 q58b q58 t60 => ?_) (fun p53 x62 s55 W56 j57 => ?_)
          · show gm_Wp X LX d _ _ 274 142 _ [gm_vi 1] n K R _ Q
            have j57 : (g_cd (M 231) e 6 (tx_n (M 231) e (tx_n (M 231) e b))).1 = true := j57
            have t60 : 0 ≤ s55 ∧ s55 - _ ≤ p53 - tx_s (M 231) e (tx_n (M 231) e b) ∧ tx_s (M 231) e (tx_n (M 231) e b) ≤ p53 := t60
            have q58 : tx_g (M 231) e p53 = (g_cd (M 231) e 6 (tx_n (M 231) e (tx_n (M 231) e b))).2 := q58
            have g59 : 0 ≤ (g_cd (M 231) e 6 (tx_n (M 231) e (tx_n (M 231) e b))).2 ∧ (g_cd (M 231) e 6 (tx_n (M 231) e (tx_n (M 231) e b))).2 ≤ e := by have := g_cd_in (f := M 231) 6 (tx_n (M 231) e (tx_n (M 231) e b)) g51.1 g51.2; have := g51.1; omega
            have i61 := (g_cd_in (f := M 231) 6 (tx_n (M 231) e (tx_n (M 231) e b)) g51.1 g51.2)
            have i61 := i61.2.2 j57
            refine fw_iftd (cc := .ne) (pc := 142) (off := 5) (by decide +kernel) (by decide) ⟨by decide, by decide⟩ (by decide) ?_
            refine gm_sz (gm_p_load (pc := 147) (i := .aload_n 0) (sr := 2) (j := 0) (by decide +kernel) rfl rfl rfl) ?_
            refine gm_sz (fw_gr (pc := 148) (ix := 13) (ci := 11) (j := 1) (r := 227) (by decide +kernel) (tR226 hE) (by decide +kernel) (by decide +kernel) (tRr hE).1) ?_
            refine gm_sz (gm_p_load (pc := 151) (i := .iload_n 2) (sr := 0) (j := 2) (by decide +kernel) rfl rfl rfl) ?_
            refine gm_sz (gm_p_const (pc := 152) (i := .iconst 3) (v := gm_vi 3) (by decide +kernel) (by decide +kernel)) ?_
            refine gm_sz (gm_p_bin (pc := 153) (i := .iadd) (f := fun x y => x + y) (by decide +kernel) rfl) ?_
            refine gm_sz (gm_p_load (pc := 154) (i := .aload_n 0) (sr := 2) (j := 0) (by decide +kernel) rfl rfl rfl) ?_
            refine gm_sz (fw_gi (pc := 155) (ix := 224) (ci := 11) (j := 15) (x := s55) (by decide +kernel) (tR226 hE) (by decide +kernel) (by decide +kernel) rfl) ?_
            refine gm_sz (fw_is (pc := 158) (k := 227) (len := 2093) (e0 := (1245 + (4 * ln)) + 3) (x := s55) (M' := rm M p53 x54 0 s55 (fun t9 => if t9 = (1245 + (4 * ln)) + 3 then s55 else W56 t9)) (by decide +kernel) (tR227 hE).1 (tR227 hE).2 (by decide) ⟨by omega, by omega⟩ rm_W) ?_
            refine gm_sz (gm_p_const (pc := 159) (i := .iconst 1) (v := gm_vi 1) (by decide +kernel) (by decide +kernel)) ?_
            rw [g_n1 j45, g_f1 j49] at h1
            exact gm_r_int (pc := 160) (by decide +kernel) (Or.inr ⟨(by decide +kernel), Or.inr rfl⟩) (h1 _ _ _ _ _ j57 q58b q58 ⟨by omega, by omega, by omega⟩)
          · show gm_Wp X LX d _ _ 274 142 _ [gm_vi 0] n K R _ Q
            have j57 : ¬ (g_cd (M 231) e 6 (tx_n (M 231) e (tx_n (M 231) e b))).1 = true := j57
            have g59 : 0 ≤ (g_cd (M 231) e 6 (tx_n (M 231) e (tx_n (M 231) e b))).2 ∧ (g_cd (M 231) e 6 (tx_n (M 231) e (tx_n (M 231) e b))).2 ≤ e := by have := g_cd_in (f := M 231) 6 (tx_n (M 231) e (tx_n (M 231) e b)) g51.1 g51.2; have := g51.1; omega
            refine fw_iffd (cc := .ne) (pc := 142) (off := 5) (by decide +kernel) (by decide) ⟨by decide, by decide⟩ (by decide) ?_
            refine gm_sz (gm_p_const (pc := 145) (i := .iconst 0) (v := gm_vi 0) (by decide +kernel) (by decide +kernel)) ?_
            rw [g_n1 j45, g_f1 j49] at h0
            exact gm_r_int (pc := 146) (by decide +kernel) (Or.inr ⟨(by decide +kernel), Or.inl rfl⟩) (h0 _ _ _ _ j57)
        · show gm_Wp X LX d _ _ 274 135 _ [gm_vi 0] n K R _ Q
          have j49 : ¬ tx_is (M 231) e (tx_n (M 231) e b) wo_if := j49
          have q52 : tx_g (M 231) e (tx_n (M 231) e b) = tx_n (M 231) e b := by rw [← q46]; exact tx_gi hp.2
          have j52p := (tx_gb (f := M 231) hp.2).1
          rw [q46] at j52p
          refine fw_iftd (cc := .eq) (pc := 135) (off := 12) (by decide +kernel) (by decide) ⟨by decide, by decide⟩ (by decide) ?_
          refine gm_sz (gm_p_load (pc := 147) (i := .aload_n 0) (sr := 2) (j := 0) (by decide +kernel) rfl rfl rfl) ?_
          refine gm_sz (fw_gr (pc := 148) (ix := 13) (ci := 11) (j := 1) (r := 227) (by decide +kernel) (tR226 hE) (by decide +kernel) (by decide +kernel) (tRr hE).1) ?_
          refine gm_sz (gm_p_load (pc := 151) (i := .iload_n 2) (sr := 0) (j := 2) (by decide +kernel) rfl rfl rfl) ?_
          refine gm_sz (gm_p_const (pc := 152) (i := .iconst 3) (v := gm_vi 3) (by decide +kernel) (by decide +kernel)) ?_
          refine gm_sz (gm_p_bin (pc := 153) (i := .iadd) (f := fun x y => x + y) (by decide +kernel) rfl) ?_
          refine gm_sz (gm_p_load (pc := 154) (i := .aload_n 0) (sr := 2) (j := 0) (by decide +kernel) rfl rfl rfl) ?_
          refine gm_sz (fw_gi (pc := 155) (ix := 224) (ci := 11) (j := 15) (x := st) (by decide +kernel) (tR226 hE) (by decide +kernel) (by decide +kernel) rfl) ?_
          refine gm_sz (fw_is (pc := 158) (k := 227) (len := 2093) (e0 := (1245 + (4 * ln)) + 3) (x := st) (M' := rm M (tx_n (M 231) e b) (tx_n (M 231) e b) 0 st (fun t9 => if t9 = (1245 + (4 * ln)) + 3 then st else (fun t9 => if t9 = (1245 + (4 * ln)) + 2 then st else (fun t9 => if t9 = (1245 + (4 * ln)) + 1 then 1 else (fun t9 => if t9 = 1245 + (4 * ln) then 2 else W t9) t9) t9) t9)) (by decide +kernel) (tR227 hE).1 (tR227 hE).2 (by decide) ⟨by omega, by omega⟩ rm_W) ?_
          refine gm_sz (gm_p_const (pc := 159) (i := .iconst 1) (v := gm_vi 1) (by decide +kernel) (by decide +kernel)) ?_
          rw [g_n1 j45, g_f0 j49] at h1
          exact gm_r_int (pc := 160) (by decide +kernel) (Or.inr ⟨(by decide +kernel), Or.inr rfl⟩) (h1 _ _ _ _ _ rfl g48 q52 ⟨by omega, by omega, by omega⟩)
      · show gm_Wp X LX d _ _ 274 48 _ [gm_vi 0, gm_vi (1245 + (4 * ln)), gm_vr 227] n K R _ Q
        have j45 : ¬ tx_is (M 231) e b wo_open := fun hh => j45 ((tr_is hb (by decide)).mpr hh)
        refine fw_iftd (cc := .eq) (pc := 48) (off := 7) (by decide +kernel) (by decide) ⟨by decide, by decide⟩ (by decide) ?_
        refine gm_sz (gm_p_const (pc := 55) (i := .iconst (-1)) (v := gm_vi (-1)) (by decide +kernel) (by decide +kernel)) ?_
        refine gm_sz (fw_is (pc := 56) (k := 227) (len := 2093) (e0 := 1245 + (4 * ln)) (x := (-1)) (M' := rm M (tx_r (tx_l (M 231)) e b) b dp st (fun t9 => if t9 = 1245 + (4 * ln) then (-1) else W t9)) (by decide +kernel) (tR227 hE).1 (tR227 hE).2 (by decide) ⟨by omega, by omega⟩ rm_W) ?_
        refine gm_sz (gm_p_load (pc := 57) (i := .aload_n 0) (sr := 2) (j := 0) (by decide +kernel) rfl rfl rfl) ?_
        refine gm_sz (fw_gr (pc := 58) (ix := 13) (ci := 11) (j := 1) (r := 227) (by decide +kernel) (tR226 hE) (by decide +kernel) (by decide +kernel) (tRr hE).1) ?_
        refine gm_sz (gm_p_load (pc := 61) (i := .iload_n 2) (sr := 0) (j := 2) (by decide +kernel) rfl rfl rfl) ?_
        refine gm_sz (fw_ia (pc := 62) (k := 227) (len := 2093) (e0 := 1245 + (4 * ln)) (x := (-1)) (by decide +kernel) (tR227 hE).1 (tR227 hE).2 (by decide) ⟨by omega, by omega⟩ (if_pos rfl)) ?_
        refine fw_iffd (cc := .ge) (pc := 63) (off := 5) (by decide +kernel) (by decide) ⟨by decide, by decide⟩ (by decide) ?_
        refine gm_sz (gm_p_const (pc := 66) (i := .iconst 0) (v := gm_vi 0) (by decide +kernel) (by decide +kernel)) ?_
        rw [g_n0 (fun hh => hh.elim j1 j23) j45] at h0
        exact gm_r_int (pc := 67) (by decide +kernel) (Or.inr ⟨(by decide +kernel), Or.inl rfl⟩) (h0 _ _ _ _ (fun h => by cases h))
theorem tr_c247 (hd : 32 ≤ d) (hE : tR n K R M e) (hl : 0 ≤ ln ∧ ln < 12) (hp : 0 ≤ pt ∧ pt ≤ e) (hg : tx_g (M 231) e pt = b) (hst : 0 ≤ st ∧ st ≤ pt) (h1 : ∀ p2 bg2 dp2 st2 W2, (g_line (M 231) e b).1 = true → 0 ≤ p2 ∧ p2 ≤ e → tx_g (M 231) e p2 = (g_line (M 231) e b).2 → 0 ≤ st2 ∧ st2 - st ≤ p2 - pt ∧ pt ≤ p2 → Q (.inl (some (gm_vi 1))) n K R (rm M p2 bg2 dp2 st2 W2)) (h0 : ∀ p2 dp2 st2 W2, ¬ (g_line (M 231) e b).1 = true → Q (.inl (some (gm_vi 0))) n K R (rm M p2 (g_line (M 231) e b).2 dp2 st2 W2)) : gm_Wp X LX d bc bs 247 0 (gm_ent 247 [gm_vr 226, gm_vi 0, gm_vi ln]) [] n K R (rm M pt bg dp st W) Q := by
  obtain ⟨-, he0, he4⟩ := tRe hE
  obtain ⟨hg1, hg2, -⟩ := tx_gb (f := M 231) hp.2
  rw [hg] at hg1 hg2
  have hb : 0 ≤ b ∧ b ≤ e := ⟨by omega, hg2⟩
  refine gm_sz (gm_p_load (pc := 0) (i := .aload_n 0) (sr := 2) (j := 0) (by decide +kernel) rfl rfl rfl) ?_
  refine gm_c_virt (k := 226) (ci := 11) (mj := 248) (ix := 131) (pc := 1) (as := []) (st := []) (d' := d - 1) (bc' := 0) (bs' := 0) (by decide +kernel) (by decide +kernel) (by decide +kernel) (by decide +kernel) (tR226 hE).1 (tR226 hE).2 (by decide) (by decide +kernel) (show 0 = gm_na 248 by decide +kernel) fw_c0 (show 1 ≤ gm_ml 248 by decide +kernel) (Nat.le_of_ble_eq_true rfl) (by omega) (Nat.zero_le _) (Nat.zero_le _) ?_
  refine tr_c248 (by omega) hE hp hg ?_
  show gm_Wp X LX d _ _ 247 4 _ [] n K R _ Q
  have q2 : tx_g (M 231) e b = b := by rw [← hg]; exact tx_gi hp.2
  have g1 : 0 ≤ tx_r (tx_l (M 231)) e b ∧ tx_r (tx_l (M 231)) e b ≤ e := by have := tx_rb (q := tx_l (M 231)) (e := e) _ b rfl hb.2; omega
  refine gm_sz (gm_p_load (pc := 4) (i := .iload_n 2) (sr := 0) (j := 2) (by decide +kernel) rfl rfl rfl) ?_
  refine gm_sz (gm_p_load (pc := 5) (i := .iload_n 1) (sr := 0) (j := 1) (by decide +kernel) rfl rfl rfl) ?_
  refine fw_iftd (cc := .eq) (pc := 6) (off := 8) (by decide +kernel) (by decide) ⟨by decide, by decide⟩ (by decide) ?_
  refine gm_sz (gm_p_const (pc := 14) (i := .bipush 12) (v := gm_vi 12) (by decide +kernel) (by decide +kernel)) ?_
  refine fw_icf (cc := .ge) (pc := 16) (off := 29) (by decide +kernel) (by decide) ⟨by omega, by omega⟩ ⟨by decide, by decide⟩ (show ¬ 12 ≤ ln by omega) ?_
  refine gm_sz (gm_p_load (pc := 19) (i := .iload_n 1) (sr := 0) (j := 1) (by decide +kernel) rfl rfl rfl) ?_
  refine fw_iftd (cc := .eq) (pc := 20) (off := 13) (by decide +kernel) (by decide) ⟨by decide, by decide⟩ (by decide) ?_
  refine gm_sz (gm_p_load (pc := 33) (i := .aload_n 0) (sr := 2) (j := 0) (by decide +kernel) rfl rfl rfl) ?_
  refine gm_sz (gm_p_load (pc := 34) (i := .iload_n 2) (sr := 0) (j := 2) (by decide +kernel) rfl rfl rfl) ?_
  refine gm_c_virt (k := 226) (ci := 11) (mj := 274) (ix := 286) (pc := 35) (as := [gm_vi ln]) (st := []) (d' := d - 1) (bc' := 0) (bs' := 0) (by decide +kernel) (by decide +kernel) (by decide +kernel) (by decide +kernel) (tR226 hE).1 (tR226 hE).2 (by decide) (by decide +kernel) (show 1 = gm_na 274 by decide +kernel) (fw_c1 fw_si) (show 2 ≤ gm_ml 274 by decide +kernel) (Nat.le_of_ble_eq_true rfl) (by omega) (Nat.zero_le _) (Nat.zero_le _) ?_
  refine tr_c274 (by omega) hE ⟨by omega, by omega⟩ hb ⟨by omega, by omega⟩ (fun p3 x4 x5 s6 W7 j8 q9b q9 t10 => ?_) (fun p3 x5 s6 W7 j8 => ?_)
  · show gm_Wp X LX d _ _ 247 38 _ [gm_vi 1] n K R _ Q
    have j8 : (g_line (M 231) e b).1 = true := j8
    have g11 : 0 ≤ (g_line (M 231) e b).2 ∧ (g_line (M 231) e b).2 ≤ e := by have := g_line_in (f := M 231) hb.1 hb.2; have := hb.1; omega
    refine fw_iffd (cc := .eq) (pc := 38) (off := 7) (by decide +kernel) (by decide) ⟨by decide, by decide⟩ (by decide) ?_
    refine gm_sz (gm_p_const (pc := 41) (i := .iconst 1) (v := gm_vi 1) (by decide +kernel) (by decide +kernel)) ?_
    refine gm_sz (gm_p_goto (pc := 42) (off := 4) (by decide +kernel) (by decide)) ?_
    have pb := (tx_gb (f := M 231) hp.2).1
    rw [hg] at pb
    exact gm_r_int (pc := 46) (by decide +kernel) (Or.inr ⟨(by decide +kernel), Or.inr rfl⟩) (h1 _ _ _ _ _ j8 q9b q9 ⟨by omega, by omega, by omega⟩)
  · show gm_Wp X LX d _ _ 247 38 _ [gm_vi 0] n K R _ Q
    have j8 : ¬ (g_line (M 231) e b).1 = true := j8
    refine fw_iftd (cc := .eq) (pc := 38) (off := 7) (by decide +kernel) (by decide) ⟨by decide, by decide⟩ (by decide) ?_
    refine gm_sz (gm_p_const (pc := 45) (i := .iconst 0) (v := gm_vi 0) (by decide +kernel) (by decide +kernel)) ?_
    exact gm_r_int (pc := 46) (by decide +kernel) (Or.inr ⟨(by decide +kernel), Or.inl rfl⟩) (h0 _ _ _ _ j8)
theorem tr_c247x (hd : 32 ≤ d) (hE : tR n K R M e) (hp : 0 ≤ pt ∧ pt ≤ e) (hg : tx_g (M 231) e pt = b) (h0 : ∀ p2, Q (.inl (some (gm_vi 0))) n K R (rm M p2 b dp st W)) : gm_Wp X LX d bc bs 247 0 (gm_ent 247 [gm_vr 226, gm_vi 0, gm_vi 12]) [] n K R (rm M pt bg dp st W) Q := by
  obtain ⟨-, he0, he4⟩ := tRe hE
  obtain ⟨hg1, hg2, -⟩ := tx_gb (f := M 231) hp.2
  rw [hg] at hg1 hg2
  have hb : 0 ≤ b ∧ b ≤ e := ⟨by omega, hg2⟩
  refine gm_sz (gm_p_load (pc := 0) (i := .aload_n 0) (sr := 2) (j := 0) (by decide +kernel) rfl rfl rfl) ?_
  refine gm_c_virt (k := 226) (ci := 11) (mj := 248) (ix := 131) (pc := 1) (as := []) (st := []) (d' := d - 1) (bc' := 0) (bs' := 0) (by decide +kernel) (by decide +kernel) (by decide +kernel) (by decide +kernel) (tR226 hE).1 (tR226 hE).2 (by decide) (by decide +kernel) (show 0 = gm_na 248 by decide +kernel) fw_c0 (show 1 ≤ gm_ml 248 by decide +kernel) (Nat.le_of_ble_eq_true rfl) (by omega) (Nat.zero_le _) (Nat.zero_le _) ?_
  refine tr_c248 (by omega) hE hp hg ?_
  show gm_Wp X LX d _ _ 247 4 _ [] n K R _ Q
  have q2 : tx_g (M 231) e b = b := by rw [← hg]; exact tx_gi hp.2
  have g1 : 0 ≤ tx_r (tx_l (M 231)) e b ∧ tx_r (tx_l (M 231)) e b ≤ e := by have := tx_rb (q := tx_l (M 231)) (e := e) _ b rfl hb.2; omega
  refine gm_sz (gm_p_load (pc := 4) (i := .iload_n 2) (sr := 0) (j := 2) (by decide +kernel) rfl rfl rfl) ?_
  refine gm_sz (gm_p_load (pc := 5) (i := .iload_n 1) (sr := 0) (j := 1) (by decide +kernel) rfl rfl rfl) ?_
  refine fw_iftd (cc := .eq) (pc := 6) (off := 8) (by decide +kernel) (by decide) ⟨by decide, by decide⟩ (by decide) ?_
  refine gm_sz (gm_p_const (pc := 14) (i := .bipush 12) (v := gm_vi 12) (by decide +kernel) (by decide +kernel)) ?_
  refine fw_ictd (cc := .ge) (pc := 16) (off := 29) (by decide +kernel) (by decide) ⟨by decide, by decide⟩ ⟨by decide, by decide⟩ (by decide) ?_
  refine gm_sz (gm_p_const (pc := 45) (i := .iconst 0) (v := gm_vi 0) (by decide +kernel) (by decide +kernel)) ?_
  exact gm_r_int (pc := 46) (by decide +kernel) (Or.inr ⟨(by decide +kernel), Or.inl rfl⟩) (h0 _)
/-- readAll of a law, from its loop on -/
theorem tr_l243 (hd : 33 ≤ d) (hE : tR n K R M e) : ∀ (t : Nat) (i pt b bg dp st : Int) (W : Int → Int), i + t = 12 → 0 ≤ i → 0 ≤ pt ∧ pt ≤ e → tx_g (M 231) e pt = b → 0 ≤ st ∧ st ≤ pt → (∀ p2 bg2 dp2 st2 W2, (g_txt (M 231) e t b).1 = true → Q (.inl (some (gm_vi (g_txt (M 231) e t b).2))) n K R (rm M p2 bg2 dp2 st2 W2)) → (∀ p2 dp2 st2 W2, ¬ (g_txt (M 231) e t b).1 = true → Q (.inl (some (gm_vi (-1)))) n K R (rm M p2 (g_txt (M 231) e t b).2 dp2 st2 W2)) → gm_Wp X LX d bc bs 243 28 [some (gm_vr 226), some (gm_vi 0), some (gm_vi i)] [] n K R (rm M pt bg dp st W) Q := by
  obtain ⟨-, he0, he4⟩ := tRe hE
  intro t
  induction t with
  | zero =>
    intro i pt b bg dp st W hit hi0 hp hg hst h1 h0
    obtain rfl : i = 12 := by omega
    refine gm_sz (gm_p_load (pc := 28) (i := .aload_n 0) (sr := 2) (j := 0) (by decide +kernel) rfl rfl rfl) ?_
    refine gm_sz (gm_p_load (pc := 29) (i := .iload_n 1) (sr := 0) (j := 1) (by decide +kernel) rfl rfl rfl) ?_
    refine gm_sz (gm_p_load (pc := 30) (i := .iload_n 2) (sr := 0) (j := 2) (by decide +kernel) rfl rfl rfl) ?_
    refine gm_c_virt (k := 226) (ci := 11) (mj := 247) (ix := 292) (pc := 31) (as := [gm_vi 0, gm_vi 12]) (st := []) (d' := d - 1) (bc' := 0) (bs' := 0) (by decide +kernel) (by decide +kernel) (by decide +kernel) (by decide +kernel) (tR226 hE).1 (tR226 hE).2 (by decide) (by decide +kernel) (show 2 = gm_na 247 by decide +kernel) (fw_c2 fw_si fw_si) (show 3 ≤ gm_ml 247 by decide +kernel) (Nat.le_of_ble_eq_true rfl) (by omega) (Nat.zero_le _) (Nat.zero_le _) ?_
    refine tr_c247x (by omega) hE hp hg (fun p1 => ?_)
    show gm_Wp X LX d _ _ 243 34 _ [gm_vi 0] n K R _ Q
    refine fw_iffd (cc := .ne) (pc := 34) (off := 5) (by decide +kernel) (by decide) ⟨by decide, by decide⟩ (by decide) ?_
    refine gm_sz (gm_p_const (pc := 37) (i := .iconst (-1)) (v := gm_vi (-1)) (by decide +kernel) (by decide +kernel)) ?_
    exact gm_r_int (pc := 38) (by decide +kernel) (Or.inl (by decide +kernel)) (h0 _ _ _ _ (fun h => by cases h))
  | succ t ih =>
    intro i pt b bg dp st W hit hi0 hp hg hst h1 h0
    obtain ⟨hg1, hg2, -⟩ := tx_gb (f := M 231) hp.2
    rw [hg] at hg1 hg2
    have hb : 0 ≤ b ∧ b ≤ e := ⟨by omega, hg2⟩
    refine gm_sz (gm_p_load (pc := 28) (i := .aload_n 0) (sr := 2) (j := 0) (by decide +kernel) rfl rfl rfl) ?_
    refine gm_sz (gm_p_load (pc := 29) (i := .iload_n 1) (sr := 0) (j := 1) (by decide +kernel) rfl rfl rfl) ?_
    refine gm_sz (gm_p_load (pc := 30) (i := .iload_n 2) (sr := 0) (j := 2) (by decide +kernel) rfl rfl rfl) ?_
    refine gm_c_virt (k := 226) (ci := 11) (mj := 247) (ix := 292) (pc := 31) (as := [gm_vi 0, gm_vi i]) (st := []) (d' := d - 1) (bc' := 0) (bs' := 0) (by decide +kernel) (by decide +kernel) (by decide +kernel) (by decide +kernel) (tR226 hE).1 (tR226 hE).2 (by decide) (by decide +kernel) (show 2 = gm_na 247 by decide +kernel) (fw_c2 fw_si fw_si) (show 3 ≤ gm_ml 247 by decide +kernel) (Nat.le_of_ble_eq_true rfl) (by omega) (Nat.zero_le _) (Nat.zero_le _) ?_
    refine tr_c247 (by omega) hE ⟨by omega, by omega⟩ hp hg hst (fun p1 x2 x3 s4 W5 j6 q7b q7 t8 => ?_) (fun p1 x3 s4 W5 j6 => ?_)
    · show gm_Wp X LX d _ _ 243 34 _ [gm_vi 1] n K R _ Q
      have j6 : (g_line (M 231) e b).1 = true := j6
      have g9 : 0 ≤ (g_line (M 231) e b).2 ∧ (g_line (M 231) e b).2 ≤ e := by have := g_line_in (f := M 231) hb.1 hb.2; have := hb.1; omega
      refine fw_iftd (cc := .ne) (pc := 34) (off := 5) (by decide +kernel) (by decide) ⟨by decide, by decide⟩ (by decide) ?_
      refine gm_sz (gm_p_load (pc := 39) (i := .aload_n 0) (sr := 2) (j := 0) (by decide +kernel) rfl rfl rfl) ?_
      refine gm_c_virt (k := 226) (ci := 11) (mj := 245) (ix := 119) (pc := 40) (as := []) (st := []) (d' := d - 1) (bc' := 0) (bs' := 0) (by decide +kernel) (by decide +kernel) (by decide +kernel) (by decide +kernel) (tR226 hE).1 (tR226 hE).2 (by decide) (by decide +kernel) (show 0 = gm_na 245 by decide +kernel) fw_c0 (show 1 ≤ gm_ml 245 by decide +kernel) (Nat.le_of_ble_eq_true rfl) (by omega) (Nat.zero_le _) (Nat.zero_le _) ?_
      refine tr_c245 (by omega) hE q7b q7 ?_
      show gm_Wp X LX d _ _ 243 43 _ [] n K R _ Q
      have q10 : tx_g (M 231) e ((g_line (M 231) e b).2) = (g_line (M 231) e b).2 := by rw [← q7]; exact tx_gi q7b.2
      refine gm_sz (gm_p_load (pc := 43) (i := .aload_n 0) (sr := 2) (j := 0) (by decide +kernel) rfl rfl rfl) ?_
      refine gm_sz (fw_gi (pc := 44) (ix := 106) (ci := 11) (j := 9) (x := (g_line (M 231) e b).2) (by decide +kernel) (tR226 hE) (by decide +kernel) (by decide +kernel) rfl) ?_
      refine gm_sz (gm_p_load (pc := 47) (i := .aload_n 0) (sr := 2) (j := 0) (by decide +kernel) rfl rfl rfl) ?_
      refine gm_sz (fw_gi (pc := 48) (ix := 109) (ci := 11) (j := 10) (x := e) (by decide +kernel) (tR226 hE) (by decide +kernel) (by decide +kernel) (tRe hE).1) ?_
      refine fw_ic (cc := .ne) (pc := 51) (off := 7) (by decide +kernel) (by decide) ⟨by omega, by omega⟩ ⟨by omega, by omega⟩ (fun j11 => ?_) (fun j11 => ?_)
      · have j11 : ¬ ((g_line (M 231) e b).2) = e := j11
        refine gm_sz (gm_p_load (pc := 58) (i := .aload_n 0) (sr := 2) (j := 0) (by decide +kernel) rfl rfl rfl) ?_
        refine gm_sz (gm_p_const (pc := 59) (i := .bipush 59) (v := gm_vi 59) (by decide +kernel) (by decide +kernel)) ?_
        refine gm_sz (gm_p_const (pc := 61) (i := .bipush 59) (v := gm_vi 59) (by decide +kernel) (by decide +kernel)) ?_
        refine gm_c_virt (k := 226) (ci := 11) (mj := 246) (ix := 112) (pc := 63) (as := [gm_vi 59, gm_vi 59]) (st := []) (d' := d - 1) (bc' := 0) (bs' := 0) (by decide +kernel) (by decide +kernel) (by decide +kernel) (by decide +kernel) (tR226 hE).1 (tR226 hE).2 (by decide) (by decide +kernel) (show 2 = gm_na 246 by decide +kernel) (fw_c2 fw_si fw_si) (show 3 ≤ gm_ml 246 by decide +kernel) (Nat.le_of_ble_eq_true rfl) (by omega) (Nat.zero_le _) (Nat.zero_le _) ?_
        refine tr_c246 hE ⟨by decide, by decide⟩ ⟨by decide, by decide⟩ g9 (fun j12 j13 j14 => ?_) (fun j12 => ?_)
        · show gm_Wp X LX d _ _ 243 66 _ [gm_vi 1] n K R _ Q
          have j12 : (g_line (M 231) e b).2 < e := j12
          have j13 : 59 ≤ M 231 ((g_line (M 231) e b).2) := j13
          have j14 : M 231 ((g_line (M 231) e b).2) ≤ 59 := j14
          refine fw_iftd (cc := .ne) (pc := 66) (off := 5) (by decide +kernel) (by decide) ⟨by decide, by decide⟩ (by decide) ?_
          refine gm_sz (gm_p_load (pc := 71) (i := .aload_n 0) (sr := 2) (j := 0) (by decide +kernel) rfl rfl rfl) ?_
          refine gm_sz (gm_p_dup (pc := 72) (by decide +kernel) fw_sr) ?_
          refine gm_sz (fw_gi (pc := 73) (ix := 106) (ci := 11) (j := 9) (x := (g_line (M 231) e b).2) (by decide +kernel) (tR226 hE) (by decide +kernel) (by decide +kernel) rfl) ?_
          refine gm_sz (gm_p_const (pc := 76) (i := .iconst 1) (v := gm_vi 1) (by decide +kernel) (by decide +kernel)) ?_
          refine gm_sz (gm_p_bin (pc := 77) (i := .iadd) (f := fun x y => x + y) (by decide +kernel) rfl) ?_
          refine gm_sz (fw_pi (pc := 78) (ix := 106) (ci := 11) (j := 9) (M' := rm M (((g_line (M 231) e b).2) + 1) ((g_line (M 231) e b).2) x3 s4 W5) (by decide +kernel) (tR226 hE) (by decide +kernel) (by decide +kernel) (by decide +kernel) rm_pt) ?_
          refine gm_sz (gm_p_iinc (pc := 81) (j := 2) (z := 1) (by decide +kernel) rfl) ?_
          refine gm_sz (gm_p_goto (pc := 84) (off := (-56)) (by decide +kernel) (by decide)) ?_
          have k9 : tx_k (M 231) e (g_line (M 231) e b).2 = 59 := (tx_ksg (f := M 231) (e := e) (b := (g_line (M 231) e b).2) (c := 59) (fun h => tRb hE (by omega) (by omega)) (by decide)).mpr ⟨by omega, by omega⟩
          rw [g_t3 j6 (by omega) k9] at h1 h0
          have e9 : tx_s (M 231) e (g_line (M 231) e b).2 = (g_line (M 231) e b).2 + 1 := (tx_k3 (f := M 231) (m := 0) (by omega) (by omega) (by omega)).2.1
          have p9 := (tx_gb (f := M 231) q7b.2).1
          rw [q7] at p9
          refine ih (i + 1) _ _ _ _ _ _ (by omega) (by omega) ⟨by omega, by omega⟩ ?_ ⟨by omega, by omega⟩ h1 h0
          unfold tx_n
          rw [e9]
        · show gm_Wp X LX d _ _ 243 66 _ [gm_vi 0] n K R _ Q
          have j12 : ¬ ((g_line (M 231) e b).2 < e ∧ 59 ≤ M 231 ((g_line (M 231) e b).2) ∧ M 231 ((g_line (M 231) e b).2) ≤ 59) := j12
          refine fw_iffd (cc := .ne) (pc := 66) (off := 5) (by decide +kernel) (by decide) ⟨by decide, by decide⟩ (by decide) ?_
          refine gm_sz (gm_p_const (pc := 69) (i := .iconst (-1)) (v := gm_vi (-1)) (by decide +kernel) (by decide +kernel)) ?_
          have ne9 : ¬ tx_k (M 231) e (g_line (M 231) e b).2 = 256 := fun h => by have := tx_kne2 (f := M 231) h; omega
          rw [g_t2 j6 ne9 (fun h => by have := (tx_ksg (f := M 231) (e := e) (b := (g_line (M 231) e b).2) (c := 59) (fun h => tRb hE (by omega) (by omega)) (by decide)).mp h; omega)] at h0
          exact gm_r_int (pc := 70) (by decide +kernel) (Or.inl (by decide +kernel)) (h0 _ _ _ _ (fun h => by cases h))
      · have j11 : ((g_line (M 231) e b).2) = e := Classical.not_not.mp j11
        refine gm_sz (gm_p_load (pc := 54) (i := .iload_n 2) (sr := 0) (j := 2) (by decide +kernel) rfl rfl rfl) ?_
        refine gm_sz (gm_p_const (pc := 55) (i := .iconst 1) (v := gm_vi 1) (by decide +kernel) (by decide +kernel)) ?_
        refine gm_sz (gm_p_bin (pc := 56) (i := .iadd) (f := fun x y => x + y) (by decide +kernel) rfl) ?_
        rw [g_t1 j6 (tx_k0 (f := M 231) (m := 0) (by omega)).1] at h1
        have h1 := fun a2 b2 c2 d2 e2 => h1 a2 b2 c2 d2 e2 rfl
        rw [show ((true, 12 - (t : Int)) : Bool × Int).2 = i + 1 by show 12 - (t : Int) = i + 1; omega] at h1
        exact gm_r_int (pc := 57) (by decide +kernel) (Or.inl (by decide +kernel)) (h1 _ _ _ _ _)
    · show gm_Wp X LX d _ _ 243 34 _ [gm_vi 0] n K R _ Q
      have j6 : ¬ (g_line (M 231) e b).1 = true := j6
      refine fw_iffd (cc := .ne) (pc := 34) (off := 5) (by decide +kernel) (by decide) ⟨by decide, by decide⟩ (by decide) ?_
      refine gm_sz (gm_p_const (pc := 37) (i := .iconst (-1)) (v := gm_vi (-1)) (by decide +kernel) (by decide +kernel)) ?_
      rw [g_t0 j6] at h0
      exact gm_r_int (pc := 38) (by decide +kernel) (Or.inl (by decide +kernel)) (h0 _ _ _ _ (fun h => by cases h))
/-- readAll of a law, from behind 'steps = 0' on -/
theorem tr_a243 (hd : 33 ≤ d) (hE : tR n K R M e) (z : Option gm_V) (h1 : ∀ p2 bg2 dp2 st2 W2, (g_law (M 231) e).1 = true → Q (.inl (some (gm_vi (g_law (M 231) e).2))) n K R (rm M p2 bg2 dp2 st2 W2)) (h0 : ∀ p2 dp2 st2 W2, ¬ (g_law (M 231) e).1 = true → Q (.inl (some (gm_vi (-1)))) n K R (rm M p2 (g_law (M 231) e).2 dp2 st2 W2)) : gm_Wp X LX d bc bs 243 9 [some (gm_vr 226), some (gm_vi 0), z] [] n K R (rm M 0 bg dp 0 W) Q := by
  obtain ⟨-, he0, he4⟩ := tRe hE
  have hp : (0 : Int) ≤ 0 ∧ (0 : Int) ≤ e := ⟨Int.le_refl _, he0⟩
  refine gm_sz (gm_p_load (pc := 9) (i := .aload_n 0) (sr := 2) (j := 0) (by decide +kernel) rfl rfl rfl) ?_
  refine gm_c_virt (k := 226) (ci := 11) (mj := 245) (ix := 119) (pc := 10) (as := []) (st := []) (d' := d - 1) (bc' := 0) (bs' := 0) (by decide +kernel) (by decide +kernel) (by decide +kernel) (by decide +kernel) (tR226 hE).1 (tR226 hE).2 (by decide) (by decide +kernel) (show 0 = gm_na 245 by decide +kernel) fw_c0 (show 1 ≤ gm_ml 245 by decide +kernel) (Nat.le_of_ble_eq_true rfl) (by omega) (Nat.zero_le _) (Nat.zero_le _) ?_
  refine tr_c245 (by omega) hE hp rfl ?_
  show gm_Wp X LX d _ _ 243 13 _ [] n K R _ Q
  have g1 : 0 ≤ tx_g (M 231) e 0 ∧ tx_g (M 231) e 0 ≤ e := by have := tx_gb (f := M 231) hp.2; have := hp.1; omega
  have q2 : tx_g (M 231) e (tx_g (M 231) e 0) = tx_g (M 231) e 0 := by rw [← (rfl : tx_g (M 231) e 0 = tx_g (M 231) e 0)]; exact tx_gi hp.2
  refine gm_sz (gm_p_load (pc := 13) (i := .aload_n 0) (sr := 2) (j := 0) (by decide +kernel) rfl rfl rfl) ?_
  refine gm_sz (fw_gi (pc := 14) (ix := 106) (ci := 11) (j := 9) (x := tx_g (M 231) e 0) (by decide +kernel) (tR226 hE) (by decide +kernel) (by decide +kernel) rfl) ?_
  refine gm_sz (gm_p_load (pc := 17) (i := .aload_n 0) (sr := 2) (j := 0) (by decide +kernel) rfl rfl rfl) ?_
  refine gm_sz (fw_gi (pc := 18) (ix := 109) (ci := 11) (j := 10) (x := e) (by decide +kernel) (tR226 hE) (by decide +kernel) (by decide +kernel) (tRe hE).1) ?_
  refine fw_ic (cc := .ne) (pc := 21) (off := 5) (by decide +kernel) (by decide) ⟨by omega, by omega⟩ ⟨by omega, by omega⟩ (fun j3 => ?_) (fun j3 => ?_)
  · have j3 : ¬ (tx_g (M 231) e 0) = e := j3
    refine gm_sz (gm_p_const (pc := 26) (i := .iconst 0) (v := gm_vi 0) (by decide +kernel) (by decide +kernel)) ?_
    refine gm_sz (gm_p_stor (pc := 27) (i := .istore_n 2) (sr := 0) (j := 2) (by decide +kernel) rfl (show 3 ≤ _ from Nat.le_of_ble_eq_true rfl) rfl) ?_
    rw [g_w1 (fun h => by have := tx_kne2 (f := M 231) h; omega)] at h1 h0
    exact tr_l243 hd hE 12 0 _ _ _ _ 0 _ rfl (Int.le_refl _) g1 q2 ⟨Int.le_refl _, by omega⟩ h1 h0
  · have j3 : (tx_g (M 231) e 0) = e := Classical.not_not.mp j3
    refine gm_sz (gm_p_const (pc := 24) (i := .iconst 0) (v := gm_vi 0) (by decide +kernel) (by decide +kernel)) ?_
    rw [g_w0 (tx_k0 (f := M 231) (m := 0) (by omega)).1] at h1
    exact gm_r_int (pc := 25) (by decide +kernel) (Or.inl (by decide +kernel)) (h1 _ _ _ _ _ rfl)
end RX
end
/-! 79l.lv -/
section
/-! THE CLASS'S law() tells the number of lines: thirteen rows of each, a number of lines each. -/
def lv80 (k : Int) : ck_Sum := ((1, 0, 0), 249, [.inr (.inr (.inl 248)), .inr (.inr (.inl 217))], ([(248, 6, 0), (249, 0, 48)], [(248, 2, 249)], [(248, 0, 0, ck_one 12), (217, 3, 3, ck_one k)]), ([(248, 3, 3), (249, 0, 47)], []), [(.inr none, 249, ([], [], [(248, 3, 3, ck_one k)]))])
def lv_init (k : Int) : ck_Sum := ((2, 2, 52), 247, [.inr (.inr (.inl 246)), .inr (.inr (.inl 217)), .inr (.inr (.inl 247))], ([(246, 14, 0)], [], [(217, 3, 3, ck_one k)]), ([], [(246, 0), (246, 1)]), [(.inr none, 249, ([(248, 6, 0), (249, 0, 48)], [(246, 0, 248), (246, 1, 247), (248, 2, 249)], [(248, 3, 3, ck_one k), (248, 1, 1, ck_one 4), (248, 0, 0, ck_one 12), (248, 2, 2, ck_one 0)]))])
def lv94 (k : Int) : ck_Sum := ((0, 0, 0), 249, [.inr (.inr (.inl 248))], ([], [], [(248, 3, 3, ck_one k)]), ([], []), [(.inr (some (.inl (ck_one k))), 249, ([], [], []))])
def lv_ll (k : Int) : ck_Sum := ((1, 0, 0), 249, [.inr (.inr (.inl 1))], ([], [(3, 8, 246)], [(248, 3, 3, ck_one k)]), ([], []), [(.inr (some (.inl (ck_one k))), 249, ([], [], []))])
def lv_E2 (k : Int) : List (Nat × List ck_Sum) := [(61, [lq_fw]), (64, [lv_ll k])]
def lv_o2 (k : Int) : List ck_Oc := [(.inr (some (.inl (ck_one k))), 249, ([], [(3, 8, 246)], [(1, 1, 1, ck_one 0)]))]
set_option maxRecDepth 100000 in
theorem lv80_e : (List.range 13).all (fun (k : Nat) => ck_ok p2_O none [] [] 58 [] 114 (lv80 k)) = true := by decide +kernel
set_option maxRecDepth 100000 in
theorem lv_init_e : (List.range 13).all (fun (k : Nat) => ck_ok p2_O none [] [(2, [pm_s79]), (58, [lv80 k])] 126 [] 104 (lv_init k)) = true := by decide +kernel
set_option maxRecDepth 100000 in
theorem lv94_e : (List.range 13).all (fun (k : Nat) => ck_ok p2_OL none [] [] 9 [] 76 (lv94 k)) = true := by decide +kernel
set_option maxRecDepth 100000 in
theorem lv_ll_e : (List.range 13).all (fun (k : Nat) => ck_ok p2_OL none [] [(9, [lv94 k])] 64 [] 90 (lv_ll k)) = true := by decide +kernel
set_option maxRecDepth 100000 in
theorem lv_g52 : (List.range 13).all (fun (k : Nat) => ck_go p2_OL none [] (lv_E2 k) 123 25 249 lq_W2 (lv_o2 k) [] 60 false [] 0 0 52 [some (.inr (.inr (.inl 1)))] [] 249 ([], [(3, 8, 246)], [(1, 1, 1, ck_one 0), (248, 3, 3, ck_one k)])) = true := by decide +kernel
set_option maxRecDepth 100000 in
theorem lv_g28 : ck_go p2_O none [] [] 123 25 245 lq_W [(.inl 0, 245, ([], [], []))] [] 60 false [] 4 454 28 [some (.inr (.inr (.inl 1)))] [] 245 ([], [], []) = true := by decide +kernel
theorem lv_one {σ : Nat → Int} {M : gm_M} {c k : Nat} {i j : Int} (h : j = i) (hM : M c i = (k : Int)) (hk : k < 13) : gm_ir (M c j) ∧ ck_gi σ (ck_one (k : Int)) (M c j) := by
  subst h
  rw [hM]
  exact ⟨⟨by omega, by omega⟩, Int.le_refl _, Int.le_refl _, fun q hq => nomatch hq⟩
section LV
variable {X : Int → Int} {LX : Nat} {Q : gm_Q}
theorem lv_all {p : Nat → Bool} (h : (List.range 13).all p = true) {k : Nat} (hk : k < 13) : p k = true := List.all_eq_true.mp h k (List.mem_range.mpr hk)
theorem lv80_s {k : Nat} (hk : k < 13) : ck_Ok p2_O X LX 58 (lv80 k) := ck_ok_s ⟨p2_nmu, ck_E0⟩ ck_X0 ck_l0 (lv_all lv80_e hk)
theorem lv_init_s {k : Nat} (hk : k < 13) : ck_Ok p2_O X LX 126 (lv_init k) := ck_ok_s ⟨p2_nmu, ck_E1 (ck_S1 pm_s79_s ck_S0) (ck_E1 (ck_S1 (lv80_s hk) ck_S0) ck_E0)⟩ ck_X0 ck_l0 (lv_all lv_init_e hk)
theorem lv94_s {k : Nat} (hk : k < 13) : ck_Ok p2_OL X LX 9 (lv94 k) := ck_ok_s ⟨pl_nmu, ck_E0⟩ ck_X0 ck_l0 (lv_all lv94_e hk)
theorem lv_ll_s {k : Nat} (hk : k < 13) : ck_Ok p2_OL X LX 64 (lv_ll k) := ck_ok_s ⟨pl_nmu, ck_E1 (ck_S1 (lv94_s hk) ck_S0) ck_E0⟩ ck_X0 ck_l0 (lv_all lv_ll_e hk)
theorem lv_mk {N : Nat} {K : gm_K} {R : gm_R} {M : gm_M} (hF : gm_Fx p2_O 245 K R M) (hN : N ≤ 400) (hu : M 215 4 = N) {k : Nat} (hk : k < 13) (h217 : M 217 3 = (k : Int)) (hq : ∀ K' R' M', lq_N N K R M K' R' M' → M' 248 3 = (k : Int) → Q (.inl (some (gm_vr 246))) 249 K' R' M') : gm_Wp X LX 3 4 454 124 0 (gm_ent 124 [gm_vr 215]) [] 245 K R M Q := by
  refine gm_sp (gm_p_new (pc := 0) (ix := 32) (ci := 10) (by decide) (by decide +kernel) (by decide +kernel)) (by decide) (by decide +kernel) ?_
  have hF1 : gm_Fx p2_O 246 (gm_nK K 245 14 0) (gm_nR R 245) (gm_nM M 245) := gm_Fx_n hF
  have fr1 : ck_fr ([], []) 245 K R M 246 (gm_nK K 245 14 0) (gm_nR R 245) (gm_nM M 245) := ck_fr_n ck_fr_0
  have k215 := lq_kd (c := 9) hF1 lq_or.1.2.2.1
  have hu1 : gm_nM M 245 215 ((4 : Nat) : Int) = (N : Int) := by
    unfold gm_nM
    rw [if_neg (by decide)]
    exact hu
  refine gm_sz (gm_p_dup (pc := 3) (by decide +kernel) (by simp [gm_sort])) ?_
  refine gm_sz (gm_p_load (pc := 4) (i := .aload_n 0) (sr := 2) (j := 0) (by decide +kernel) rfl rfl rfl) ?_
  refine gm_sz (gm_p_get (pc := 5) (ix := 14) (ci := 9) (j := 2) (by decide +kernel) k215.1 k215.2 (by decide +kernel)) ?_
  rw [if_pos (show gm_isr 9 2 = true by decide +kernel), lq_rf hF1 lq_or.2.2.2.1]
  refine gm_sz (gm_p_load (pc := 8) (i := .aload_n 0) (sr := 2) (j := 0) (by decide +kernel) rfl rfl rfl) ?_
  refine gm_sz (gm_p_get (pc := 9) (ix := 20) (ci := 9) (j := 3) (by decide +kernel) k215.1 k215.2 (by decide +kernel)) ?_
  rw [if_pos (show gm_isr 9 3 = true by decide +kernel), lq_rf hF1 lq_or.2.2.2.2]
  refine gm_sz (gm_p_load (pc := 12) (i := .aload_n 0) (sr := 2) (j := 0) (by decide +kernel) rfl rfl rfl) ?_
  refine gm_sz (gm_p_get (pc := 13) (ix := 24) (ci := 9) (j := 4) (by decide +kernel) k215.1 k215.2 (by decide +kernel)) ?_
  rw [if_neg (show ¬ gm_isr 9 4 = true by decide +kernel), hu1]
  refine gm_c_stat (mj := 125) (ix := 34) (pc := 16) (as := [gm_vr 219, gm_vi (N : Int)]) (st := [gm_vr 217, gm_vr 246, gm_vr 246]) (d' := 1) (bc' := 1) (bs' := 400) (by decide +kernel) (by decide +kernel) (by decide +kernel) (by decide +kernel) (show 2 = gm_na 125 by decide +kernel) (fun v hv => by simp only [List.mem_cons, List.not_mem_nil, or_false] at hv; rcases hv with rfl | rfl <;> simp [gm_sort]) (show 2 ≤ gm_ml 125 by decide +kernel) (Nat.le_of_ble_eq_true rfl) (by decide) (by decide) (by decide +kernel) ?_
  refine lq_cp (md_kd hF1 lq_or.1.2.2.2).1.1 (md_kd hF1 lq_or.1.2.2.2).1.2 (md_kd hF1 lq_or.1.2.2.2).2 hN (by decide) (fun M2 hM2 => ?_)
  show gm_Wp X LX 3 (4 - 1 - 1) _ 124 19 (gm_ent 124 [gm_vr 215]) [gm_vr 247, gm_vr 217, gm_vr 246, gm_vr 246] 247 (gm_nK (gm_nK K 245 14 0) 246 0 N) (gm_nR (gm_nR R 245) 246) M2 Q
  generalize hK2 : gm_nK (gm_nK K 245 14 0) 246 0 N = K2
  generalize hR2 : gm_nR (gm_nR R 245) 246 = R2
  have a6 : K2 246 = (14, 0) := by rw [← hK2]; unfold gm_nK; rw [if_neg (by decide), if_pos rfl]
  have a7 : K2 247 = (0, N) := by rw [← hK2]; unfold gm_nK; rw [if_pos rfl]
  have hF2 : gm_Fx p2_O 247 K2 R2 M2 := lq_cg hF1 (fun k hk => by rw [← hK2]; show gm_nK _ 246 0 N k = _; rw [show gm_nK (gm_nK K 245 14 0) 246 0 N k = if k = 246 + 1 then (0, N) else gm_nK K 245 14 0 k from rfl, if_neg (by omega)]) (fun k j hk => by rw [← hR2]; rw [show gm_nR (gm_nR R 245) 246 k j = if k = 246 + 1 then 0 else gm_nR R 245 k j from rfl, if_neg (by omega)]) hM2 (by decide)
  have fr2 : ck_fr ([], []) 245 K R M 247 K2 R2 M2 := by
    refine ⟨by decide, fun k hk => ?_, fun k j hk hw => ?_, fun k j hk hw => ?_⟩
    · rw [← hK2, show gm_nK (gm_nK K 245 14 0) 246 0 N k = if k = 246 + 1 then (0, N) else gm_nK K 245 14 0 k from rfl, if_neg (by omega)]
      exact fr1.2.1 k hk
    · rw [hM2 k j (by omega)]
      exact fr1.2.2.1 k j hk hw
    · rw [← hR2, show gm_nR (gm_nR R 245) 246 k j = if k = 246 + 1 then 0 else gm_nR R 245 k j from rfl, if_neg (by omega)]
      exact fr1.2.2.2 k j hk hw
  refine gm_c_init (kd := 1) (mj := 126) (ix := 40) (pc := 19) (k := 246) (as := [gm_vr 217, gm_vr 247]) (st := [gm_vr 246]) (d' := 2) (bc' := 2) (bs' := 52) (by decide +kernel) (by decide +kernel) (Or.inl rfl) (by decide +kernel) (by decide +kernel) ⟨by decide, by decide⟩ (show 2 = gm_na 126 by decide +kernel) (fun v hv => by simp only [List.mem_cons, List.not_mem_nil, or_false] at hv; rcases hv with rfl | rfl <;> simp [gm_sort]) (show 2 + 1 ≤ gm_ml 126 by decide +kernel) (Nat.le_of_ble_eq_true rfl) (by decide) (by decide) (by decide +kernel) ?_
  have h2173 : M2 217 3 = (k : Int) := by
    rw [hM2 217 3 (by decide)]
    unfold gm_nM
    rw [if_neg (by decide)]
    exact h217
  refine gm_Wp_mono (fun o n K3 R3 M3 h => ?_) (lv_init_s hk 2 (ck_sn p2_O (fun _ => 0) M2) [gm_vr 246, gm_vr 217, gm_vr 247] 247 K2 R2 M2 (Nat.le_refl _) rfl ⟨_, _, rfl, rfl, _, _, rfl, rfl, _, _, rfl, rfl, rfl⟩ (ck_sn_s p2_nmu) hF2 ⟨fun q hq => by rw [List.mem_singleton.mp hq]; exact ⟨⟨by decide, by decide⟩, a6⟩, (fun _ h => nomatch h), (fun q hq => by rw [List.mem_singleton.mp hq]; exact ⟨Nat.le_of_ble_eq_true rfl, fun j j1 j2 => (lv_one (Int.le_antisymm j2 j1) h2173 hk)⟩)⟩)
  obtain ⟨f1, f2, oc, f3, f4, f5, f6⟩ := h
  rw [List.mem_singleton.mp f3] at f4 f5 f6
  have f5 : n = 249 := f5
  subst f5
  rcases o with (_ | v) | x
  case inl.some => exact absurd f4 id
  case inr => exact absurd f4 id
  show gm_Wp X LX 3 _ _ 124 22 (gm_ent 124 [gm_vr 215]) [gm_vr 246] 249 K3 R3 M3 Q
  have b3 := (f6.2.2 (248, 3, 3, ck_one (k : Int)) List.mem_cons_self).2 3 (Int.le_refl _) (Int.le_refl _)
  have b1 := (f6.2.2 (248, 1, 1, ck_one 4) (List.mem_cons_of_mem _ List.mem_cons_self)).2 1 (Int.le_refl _) (Int.le_refl _)
  have b0 := (f6.2.2 (248, 0, 0, ck_one 12) (List.mem_cons_of_mem _ (List.mem_cons_of_mem _ List.mem_cons_self))).2 0 (Int.le_refl _) (Int.le_refl _)
  have b31 : (k : Int) ≤ M3 248 3 := b3.2.1
  have b32 : M3 248 3 ≤ (k : Int) := b3.2.2.1
  exact gm_r_ref (pc := 22) (by decide +kernel) (Or.inl ⟨"GlacierMail$Law", by decide +kernel⟩) (hq K3 R3 M3 ⟨⟨f1, ck_fr_tr fr2 f2 rfl rfl⟩, ⟨(f2.2.1 246 (by decide)).trans a6, (f2.2.1 247 (by decide)).trans a7, (f6.1 (248, 6, 0) List.mem_cons_self).2, (f6.1 (249, 0, 48) (List.mem_cons_of_mem _ List.mem_cons_self)).2⟩, ⟨(f6.2.1 (246, 0, 248) List.mem_cons_self).2, (f6.2.1 (246, 1, 247) (List.mem_cons_of_mem _ List.mem_cons_self)).2, (f6.2.1 (248, 2, 249) (List.mem_cons_of_mem _ (List.mem_cons_of_mem _ List.mem_cons_self))).2⟩, Int.le_antisymm b0.2.2.1 b0.2.1, Int.le_antisymm b1.2.2.1 b1.2.1, by omega, by omega⟩ (Int.le_antisymm b32 b31))
/-- law() from behind its text on: the number of lines -/
theorem lv_38 {L : gm_L} {K : gm_K} {R : gm_R} {M : gm_M} {k : Nat} (hk : k < 13) (hF : gm_Fx p2_O 245 K R M) (hll : L.length = 1) (l0 : L[0]? = some (some (gm_vr 1))) (hm : M 1 1 = 0) (h217 : M 217 3 = (k : Int)) (hq : ∀ n2 (K2 : gm_K) R2 M2, 245 ≤ n2 → (∀ c, c ≤ 245 → K2 c = K c) → Q (.inl (some (gm_vi (k : Int)))) n2 K2 R2 M2) : gm_Wp X LX 25 4 454 123 38 L [] 245 K R M Q := by
  have tu := ((gm_tyr_s hF (show gm_tyr p2_O 215 4 4 = some (0, 400) by decide +kernel)).2 4 (Int.le_refl _) (Int.le_refl _)).2
  have tu1 : (0 : Int) ≤ M 215 4 := tu.1
  have tu2 : M 215 4 ≤ (400 : Int) := tu.2
  obtain ⟨N, hN⟩ : ∃ N : Nat, M 215 4 = (N : Int) := ⟨(M 215 4).toNat, by omega⟩
  have hN4 : N ≤ 400 := by omega
  have k1 := lq_kd (c := 0) hF lq_or.1.1
  have k3 := lq_kd (c := 1) hF lq_or.1.2.1
  have k215 := lq_kd (c := 9) hF lq_or.1.2.2.1
  refine gm_sz (gm_p_load (pc := 38) (i := .aload_n 0) (sr := 2) (j := 0) (by decide +kernel) rfl l0 rfl) ?_
  refine gm_sz (gm_p_get (pc := 39) (ix := 23) (ci := 0) (j := 3) (by decide +kernel) k1.1 k1.2 (by decide +kernel)) ?_
  rw [if_pos (show gm_isr 0 3 = true by decide +kernel), lq_rf hF lq_or.2.1]
  refine gm_sz (gm_p_load (pc := 42) (i := .aload_n 0) (sr := 2) (j := 0) (by decide +kernel) rfl l0 rfl) ?_
  refine gm_sz (gm_p_get (pc := 43) (ix := 88) (ci := 0) (j := 13) (by decide +kernel) k1.1 k1.2 (by decide +kernel)) ?_
  rw [if_pos (show gm_isr 0 13 = true by decide +kernel), lq_rf hF lq_or.2.2.1]
  refine gm_c_virt (k := 215) (ci := 9) (mj := 124) (ix := 142) (pc := 46) (as := []) (st := [gm_vr 3]) (d' := 3) (bc' := 4) (bs' := 454) (by decide +kernel) (by decide +kernel) (by decide +kernel) (by decide +kernel) k215.1 k215.2 (by decide) (by decide +kernel) (show 0 = gm_na 124 by decide +kernel) (fun v hv => nomatch hv) (show 0 + 1 ≤ gm_ml 124 by decide +kernel) (Nat.le_of_ble_eq_true rfl) (by decide) (Nat.le_refl _) (Nat.le_refl _) ?_
  refine lv_mk hF hN4 hN hk h217 (fun K1 R1 M1 h1 h48 => ?_)
  obtain ⟨⟨g1, g2⟩, ⟨k6, k7, k8, k9⟩, ⟨r0, r1, r2⟩, m0, m1, m3⟩ := h1
  show gm_Wp X LX 25 _ _ 123 49 L [gm_vr 246, gm_vr 3] 249 K1 R1 M1 _
  have kt := lq_kd (c := 1) g1 lq_or.1.2.1
  refine gm_sz (gm_p_putr (pc := 49) (ix := 146) (ci := 1) (j := 8) (by decide +kernel) kt.1 kt.2 (by decide +kernel) (by decide +kernel) (by decide +kernel)) ?_
  have un : ∀ (k : Nat) (j : Int), ¬ k = 3 → gm_uR R1 3 ((8 : Nat) : Int) 246 k j = R1 k j := fun k j hk => by unfold gm_uR; rw [if_neg (fun h => hk h.1)]
  have u8 : gm_uR R1 3 ((8 : Nat) : Int) 246 3 8 = 246 := by unfold gm_uR; rw [if_pos ⟨rfl, rfl⟩]
  have gF : gm_Fx p2_O 249 K1 (gm_uR R1 3 ((8 : Nat) : Int) 246) M1 := gm_Fx_R g1 (show p2_O.2.1 3 ((8 : Nat) : Int) = none by decide +kernel)
  generalize gm_uR R1 3 ((8 : Nat) : Int) 246 = R3 at *
  have gL : gm_Fx p2_OL 249 K1 R3 M1 := pl_i gF hN4 k6 k7 k8 k9 ((un 246 0 (by decide)).trans r0) ((un 246 1 (by decide)).trans r1) ((un 248 2 (by decide)).trans r2) m0 m1 m3
  have h11 : M1 1 1 = 0 := (g2.2.2.1 1 1 (by decide) (fun w hw => nomatch hw)).trans hm
  have gk : ∀ c, c ≤ 245 → K1 c = K c := fun c hc => g2.2.1 c hc
  have hl : ck_gl (fun _ => 0) [some (.inr (.inr (.inl 1)))] L := by
    refine ⟨hll.symm, fun j b hb => ?_⟩
    rcases j with _ | j
    · have hb : some (some (.inr (.inr (.inl 1)))) = some (some b) := hb
      cases hb
      exact ⟨_, l0, rfl⟩
    · have hb : none = some (some b) := hb
      cases hb
  have hf : ck_gf (fun _ => 0) ([], [(3, 8, 246)], [(1, 1, 1, ck_one 0), (248, 3, 3, ck_one (k : Int))]) 249 K1 R3 M1 := by
    refine ⟨(fun q hq => nomatch hq), fun q hq => ?_, fun q hq => ?_⟩
    · rw [List.mem_singleton.mp hq]
      exact ⟨by decide, u8⟩
    · simp only [List.mem_cons, List.not_mem_nil, or_false] at hq
      rcases hq with rfl | rfl
      · exact ⟨by decide, fun j j1 j2 => lv_one (k := 0) (Int.le_antisymm j2 j1) h11 (by decide)⟩
      · exact ⟨Nat.le_of_ble_eq_true rfl, fun j j1 j2 => lv_one (Int.le_antisymm j2 j1) h48 hk⟩
  refine gm_Wp_mono (fun o n K4 R4 M4 h => ?_) (gm_Wp_wk (Nat.le_refl _) (Nat.zero_le _) (Nat.zero_le _) (ck_go_s (σ0 := fun _ => 0) (W := lq_W2) (n0 := 249) (K0 := K1) (R0 := R3) (M0 := M1) (outs := lv_o2 k) (cuts := []) (by decide) ⟨pl_nmu, ck_E1 (ck_S1 lq_fw_s ck_S0) (ck_E1 (ck_S1 (lv_ll_s hk) ck_S0) ck_E0)⟩ ck_X0 ck_l0 60 false [] 0 0 52 [some (.inr (.inr (.inl 1)))] [] 249 ([], [(3, 8, 246)], [(1, 1, 1, ck_one 0), (248, 3, 3, ck_one (k : Int))]) (fun _ => 0) L [] K1 R3 M1 (fun _ _ => rfl) (fun _ h => nomatch h) ⟨gL, hl, rfl, hf, ck_fr_0⟩ (lv_all lv_g52 hk)))
  obtain ⟨e1, e2, oc, e3, e4, e5, e6⟩ := h
  rw [List.mem_singleton.mp e3] at e4
  rcases o with (_ | v) | x
  · exact absurd e4 id
  · obtain ⟨x, rfl, -, g1, g2, -⟩ := e4
    have g1 : (k : Int) ≤ x := g1
    have g2 : x ≤ (k : Int) := g2
    have g3 : x = (k : Int) := Int.le_antisymm g2 g1
    rw [g3]
    exact hq _ _ _ _ (Nat.le_trans (by decide) e2.1) (fun c hc => (e2.2.1 c (by omega)).trans (gk c hc))
  · exact absurd e4 id
theorem g_txt_b {f : Int → Int} {e : Int} : ∀ (t : Nat) (b : Int), 0 ≤ b → b ≤ e → t ≤ 12 → 0 ≤ (g_txt f e t b).2 ∧ ((g_txt f e t b).1 = true → (g_txt f e t b).2 ≤ 12) ∧ (¬ (g_txt f e t b).1 = true → (g_txt f e t b).2 ≤ e) := by
  intro t
  induction t with
  | zero => exact fun b h0 h1 _ => ⟨h0, (fun h => by cases h), fun _ => h1⟩
  | succ t ih =>
    intro b h0 h1 ht
    obtain ⟨a1, a2⟩ := g_line_in (f := f) h0 h1
    by_cases h : (g_line f e b).1 = true
    · by_cases h2 : tx_k f e (g_line f e b).2 = 256
      · rw [g_t1 h h2]
        exact ⟨by show 0 ≤ 12 - (t : Int); omega, (fun _ => by show 12 - (t : Int) ≤ 12; omega), fun h => absurd rfl h⟩
      · by_cases h3 : tx_k f e (g_line f e b).2 = 59
        · rw [g_t3 h h2 h3]
          obtain ⟨n1, n2, -⟩ := tx_nb (f := f) a2
          exact ih _ (by omega) n2 (by omega)
        · rw [g_t2 h h2 h3]
          exact ⟨by show 0 ≤ (g_line f e b).2; omega, (fun h => by cases h), fun _ => a2⟩
    · rw [g_t0 h]
      exact ⟨by show 0 ≤ (g_line f e b).2; omega, (fun h => by cases h), fun _ => a2⟩
theorem g_law_b {f : Int → Int} {e : Int} (h0 : 0 ≤ e) : 0 ≤ (g_law f e).2 ∧ ((g_law f e).1 = true → (g_law f e).2 ≤ 12) ∧ (¬ (g_law f e).1 = true → (g_law f e).2 ≤ e) := by
  obtain ⟨a1, a2, -⟩ := tx_gb (f := f) h0
  by_cases h : tx_k f e (tx_g f e 0) = 256
  · rw [g_w0 h]
    exact ⟨Int.le_refl _, (fun _ => by decide), fun h => absurd rfl h⟩
  · rw [g_w1 h]
    exact g_txt_b 12 _ a1 a2 (by decide)
noncomputable def lv_Qf (K : gm_K) (f : Int → Int) (e : Int) : gm_Q := fun o _ K2 _ M2 => (o = .inl (some (gm_vi (-1))) ∧ (∀ k, k ≤ 245 → K2 k = K k) ∧ (g_law f e).1 = true ∧ M2 217 3 = (g_law f e).2) ∨ (¬ (g_law f e).1 = true ∧ o = .inl (some (gm_vi (g_law f e).2)))
/-- the class's law() tells what the grammar tells -/
theorem lv_law {K : gm_K} {R : gm_R} {M : gm_M} {e : Int} (hF : gm_Fx p2_O 245 K R M) (he : M 1 1 = e) (h1 : (g_law (M 2) e).1 = true → ∀ n2 (K2 : gm_K) R2 M2, 245 ≤ n2 → (∀ c, c ≤ 245 → K2 c = K c) → Q (.inl (some (gm_vi (g_law (M 2) e).2))) n2 K2 R2 M2) (h0 : ¬ (g_law (M 2) e).1 = true → ∀ n2 (K2 : gm_K) R2 M2, 245 ≤ n2 → (∀ c, c ≤ 245 → K2 c = K c) → Q (.inr 0) n2 K2 R2 M2) : gm_Wp X LX 26 4 454 123 0 (gm_ent 123 [gm_vr 1]) [] 245 K R M Q := by
  have te := ((gm_tyr_s hF (show gm_tyr p2_O 1 1 1 = some (0, 400) by decide +kernel)).2 1 (Int.le_refl _) (Int.le_refl _)).2
  rw [he] at te
  have te : 0 ≤ e ∧ e ≤ 400 := te
  have k1 := lq_kd (c := 0) hF lq_or.1.1
  have k215 := lq_kd (c := 9) hF lq_or.1.2.2.1
  have k217 : K 217 = (6, 0) := (hF.1 217 (6, 0) (by decide +kernel)).2.2
  obtain ⟨b0, b1, b2⟩ := g_law_b (f := M 2) te.1
  refine gm_sz (gm_p_load (pc := 0) (i := .aload_n 0) (sr := 2) (j := 0) (by decide +kernel) rfl rfl rfl) ?_
  refine gm_sz (gm_p_load (pc := 1) (i := .aload_n 0) (sr := 2) (j := 0) (by decide +kernel) rfl rfl rfl) ?_
  refine gm_sz (fw_gr (pc := 2) (ix := 88) (ci := 0) (j := 13) (r := 215) (by decide +kernel) k1 (by decide +kernel) (by decide +kernel) (lq_rf hF lq_or.2.2.1)) ?_
  refine gm_sz (gm_p_load (pc := 5) (i := .aload_n 0) (sr := 2) (j := 0) (by decide +kernel) rfl rfl rfl) ?_
  refine gm_sz (fw_gi (pc := 6) (ix := 13) (ci := 0) (j := 1) (x := e) (by decide +kernel) k1 (by decide +kernel) (by decide +kernel) he) ?_
  refine gm_c_up (k := 215) (ci := 9) (mj := 72) (ix := 139) (pc := 9) (as := [gm_vi e]) (st := [gm_vr 1]) (d' := 25) (bc' := 0) (bs' := 0) (by decide +kernel) (by decide +kernel) (by decide +kernel) k215.1 k215.2 (show 1 = gm_na 72 by decide +kernel) (fw_c1 fw_si) (show 2 ≤ gm_ml 72 by decide +kernel) (Nat.le_of_ble_eq_true rfl) (by decide) (Nat.zero_le _) (Nat.zero_le _) ?_
  refine gm_Wp_mono (fun o n K1 R1 M1 h => ?_) (gm_Wp_and (pm_s77_s 25 (ck_sn p2_O (fun _ => 0) M) [gm_vr 215, gm_vi e] 245 K R M (by decide) rfl ⟨_, _, rfl, rfl, _, _, rfl, ⟨e, rfl, ⟨by omega, by omega⟩, te.1, te.2, fun _ h => nomatch h⟩, rfl⟩ (ck_sn_s p2_nmu) hF ⟨(fun _ h => nomatch h), (fun _ h => nomatch h), fun q hq => ?_⟩) (tx_c72 (Q := lv_Qf K (M 2) e) (by decide) hF te (fun K2 R2 M2 a b c => Or.inl ⟨rfl, a, b, c⟩) (fun K2 R2 M2 a => Or.inr ⟨a, rfl⟩)))
  · obtain ⟨⟨f1, f2, oc, f3, f4, f5, -⟩, o2, n2, K2, R2, M2, hq, hdo, hdm⟩ := h
    have hx : (∃ x, o = .inl (some (gm_vi x)) ∧ gm_ir x ∧ -1 ≤ x ∧ x ≤ 400) ∧ n = 245 := by
      rcases List.mem_cons.mp f3 with rfl | f3
      · rcases o with (_ | v) | x9
        · exact absurd f4 id
        · obtain ⟨x, rfl, hx, g1, g2, -⟩ := f4
          exact ⟨⟨x, rfl, hx, g1, Int.le_trans g2 (by decide)⟩, f5⟩
        · exact absurd f4 id
      · rw [List.mem_singleton.mp f3] at f4 f5
        rcases o with (_ | v) | x9
        · exact absurd f4 id
        · obtain ⟨x, rfl, hx, g1, g2, -⟩ := f4
          exact ⟨⟨x, rfl, hx, Int.le_trans (by decide) g1, g2⟩, f5⟩
        · exact absurd f4 id
    obtain ⟨⟨x, rfl, hx, hx1, hx2⟩, rfl⟩ := hx
    show gm_Wp X LX 26 _ _ 123 12 (gm_ent 123 [gm_vr 1]) [gm_vi x, gm_vr 1] 245 K1 R1 M1 Q
    have F2 : gm_Fx p2_O 245 K1 R1 (gm_uM M1 1 2 x) := gm_Fx_M f1 (show gm_tyw p2_O 1 2 2 (-1) 400 = true by decide +kernel) (Int.le_refl _) (Int.le_refl _) hx1 hx2
    have F3 : gm_Fx p2_O 245 K1 R1 (gm_uM (gm_uM M1 1 2 x) 1 1 0) := gm_Fx_M F2 (show gm_tyw p2_O 1 1 1 0 400 = true by decide +kernel) (Int.le_refl _) (Int.le_refl _) (Int.le_refl _) (by decide)
    have j1 := lq_kd (c := 0) f1 lq_or.1.1
    refine gm_sz (fw_pi (pc := 12) (ix := 17) (ci := 0) (j := 2) (M' := gm_uM M1 1 2 x) (by decide +kernel) j1 (by decide +kernel) (by decide +kernel) (by decide +kernel) rfl) ?_
    refine gm_sz (gm_p_load (pc := 15) (i := .aload_n 0) (sr := 2) (j := 0) (by decide +kernel) rfl rfl rfl) ?_
    refine gm_sz (gm_p_const (pc := 16) (i := .iconst 0) (v := gm_vi 0) (by decide +kernel) (by decide +kernel)) ?_
    refine gm_sz (fw_pi (pc := 17) (ix := 13) (ci := 0) (j := 1) (M' := gm_uM (gm_uM M1 1 2 x) 1 1 0) (by decide +kernel) j1 (by decide +kernel) (by decide +kernel) (by decide +kernel) rfl) ?_
    refine gm_sz (gm_p_load (pc := 20) (i := .aload_n 0) (sr := 2) (j := 0) (by decide +kernel) rfl rfl rfl) ?_
    refine gm_sz (fw_gi (pc := 21) (ix := 17) (ci := 0) (j := 2) (x := x) (by decide +kernel) j1 (by decide +kernel) (by decide +kernel) ((uM_ne (by omega)).trans uM_at)) ?_
    refine gm_sz (gm_p_const (pc := 24) (i := .iconst (-1)) (v := gm_vi (-1)) (by decide +kernel) (by decide +kernel)) ?_
    refine fw_ic (cc := .eq) (pc := 25) (off := 13) (by decide +kernel) (by decide) hx ⟨by decide, by decide⟩ (fun hp => ?_) (fun hp => ?_)
    · have hp : x = -1 := hp
      rcases hq with ⟨rfl, hk, hg, h217⟩ | ⟨hg, rfl⟩
      · obtain ⟨k, hk9⟩ : ∃ k : Nat, (g_law (M 2) e).2 = (k : Int) := ⟨_, (Int.toNat_of_nonneg b0).symm⟩
        have hk12 := b1 hg
        have hk13 : k < 13 := by omega
        have h9 := h1 hg
        rw [hk9] at h9
        have kk : K1 217 = (6, 0) := (f2.2.1 217 (by decide)).trans k217
        have e3 := (hdm 217 (by decide) (by decide) ((f2.2.1 217 (by decide)).trans (hk 217 (by decide)).symm)).2.2 2 3 (by rw [kk]) (by decide +kernel) (by decide +kernel)
        have e3 : Int32.ofInt (M1 217 3) = Int32.ofInt (M2 217 3) := e3
        have t217 := ((gm_tyr_s f1 (show gm_tyr p2_O 217 3 3 = some (0, 12) by decide +kernel)).2 3 (Int.le_refl _) (Int.le_refl _)).1
        have e4 : M1 217 3 = (k : Int) := (dt_i e3 t217 (by rw [h217, hk9]; exact ⟨by omega, by omega⟩)).trans (h217.trans hk9)
        refine gm_Wp_wk (d' := 25) (bc' := 4) (bs' := 454) (by decide) (Nat.le_refl _) (Nat.le_refl _) (lv_38 hk13 F3 rfl rfl uM_at (by rw [uM_ne (by omega), uM_ne (by omega)]; exact e4) (fun n2 K2 R2 M2 hn hk2 => h9 _ _ _ _ hn (fun c hc => (hk2 c hc).trans (f2.2.1 c hc))))
      · have hdo : Int32.ofInt x = Int32.ofInt (g_law (M 2) e).2 := hdo
        have b3 := b2 hg
        have := dt_i hdo hx ⟨by omega, by omega⟩
        omega
    · have hp : ¬ x = -1 := hp
      rcases hq with ⟨rfl, hk, hg, h217⟩ | ⟨hg, rfl⟩
      · have hdo : Int32.ofInt x = Int32.ofInt (-1) := hdo
        exact absurd (dt_i hdo hx ⟨by decide, by decide⟩) hp
      · have hl : ck_gl (fun _ => 0) [some (.inr (.inr (.inl 1)))] (gm_ent 123 [gm_vr 1]) := by
          refine ⟨rfl, fun j b hb => ?_⟩
          rcases j with _ | j
          · have hb : some (some (.inr (.inr (.inl 1)))) = some (some b) := hb
            cases hb
            exact ⟨_, rfl, rfl⟩
          · have hb : none = some (some b) := hb
            cases hb
        refine gm_Wp_mono (fun o n K4 R4 M4 h => ?_) (gm_Wp_wk (d' := 25) (bc' := 4) (bs' := 454) (by decide) (Nat.le_refl _) (Nat.le_refl _) (ck_go_s (O := p2_O) (E := []) (σ0 := fun _ => 0) (W := lq_W) (n0 := 245) (K0 := K1) (R0 := R1) (M0 := gm_uM (gm_uM M1 1 2 x) 1 1 0) (outs := [(.inl 0, 245, ([], [], []))]) (cuts := []) (by decide) ⟨p2_nmu, ck_E0⟩ ck_X0 ck_l0 60 false [] 4 454 28 [some (.inr (.inr (.inl 1)))] [] 245 ([], [], []) (fun _ => 0) (gm_ent 123 [gm_vr 1]) [] K1 R1 (gm_uM (gm_uM M1 1 2 x) 1 1 0) (fun _ _ => rfl) (fun _ h => nomatch h) ⟨F3, hl, rfl, ⟨(fun _ h => nomatch h), (fun _ h => nomatch h), (fun _ h => nomatch h)⟩, ck_fr_0⟩ lv_g28))
        obtain ⟨e1, e2, oc, e3, e4, e5, e6⟩ := h
        rw [List.mem_singleton.mp e3] at e4
        rcases o with (_ | v) | x9
        · exact absurd e4 id
        · exact absurd e4 id
        · have e4 : 0 = x9 := e4
          subst e4
          exact h0 hg _ _ _ _ e2.1 (fun c hc => (e2.2.1 c hc).trans (f2.2.1 c hc))
  · rw [List.mem_singleton.mp hq]
    refine ⟨by decide, fun j j1 j2 => ?_⟩
    have : j = 3 := Int.le_antisymm j2 j1
    subst this
    have t := (gm_tyr_s hF (show gm_tyr p2_O 216 3 3 = some (0, 400) by decide +kernel)).2 3 (Int.le_refl _) (Int.le_refl _)
    have hs : ck_sn p2_O (fun _ => 0) M 13 = M 216 3 := ck_sn_s p2_nmu (13, 216, 3) (show (13, 216, 3) ∈ p2_nm by decide)
    exact ⟨t.1, t.2.1, t.2.2, ck_gt1 (by decide) (show M 216 3 = ck_sn p2_O (fun _ => 0) M 13 + 0 by rw [hs]; omega)⟩
theorem lv_hit : gm_hit (gm_ow 122) 3 0 false (gm_hh 122) = some (some 11) := by decide +kernel
/-- the law's own method that calls it -/
theorem lv_h122 {K : gm_K} {R : gm_R} {M : gm_M} {e : Int} (hF : gm_Fx p2_O 245 K R M) (he : M 1 1 = e) (h1 : (g_law (M 2) e).1 = true → ∀ n2 (K2 : gm_K) R2 M2, 245 ≤ n2 → (∀ c, c ≤ 245 → K2 c = K c) → M2 245 0 = (g_law (M 2) e).2 → Q (.inl (some (gm_vi 0))) n2 K2 R2 M2) (h0 : ¬ (g_law (M 2) e).1 = true → ∀ n2 (K2 : gm_K) R2 M2, 245 ≤ n2 → (∀ c, c ≤ 245 → K2 c = K c) → Q (.inl (some (gm_vi 1))) n2 K2 R2 M2) : gm_Wp X LX 27 4 454 122 0 (gm_ent 122 [gm_vr 1, gm_vr 245]) [] 245 K R M Q := by
  have k1 := lq_kd (c := 0) hF lq_or.1.1
  have k245 : K 245 = (2, 1) := (hF.1 245 (2, 1) (by decide +kernel)).2.2
  have te := ((gm_tyr_s hF (show gm_tyr p2_O 1 1 1 = some (0, 400) by decide +kernel)).2 1 (Int.le_refl _) (Int.le_refl _)).2
  rw [he] at te
  have te : 0 ≤ e ∧ e ≤ 400 := te
  obtain ⟨b0, b1, b2⟩ := g_law_b (f := M 2) te.1
  refine gm_sz (gm_p_load (pc := 0) (i := .aload_n 1) (sr := 2) (j := 1) (by decide +kernel) rfl rfl rfl) ?_
  refine gm_sz (gm_p_const (pc := 1) (i := .iconst 0) (v := gm_vi 0) (by decide +kernel) (by decide +kernel)) ?_
  refine gm_sz (gm_p_load (pc := 2) (i := .aload_n 0) (sr := 2) (j := 0) (by decide +kernel) rfl rfl rfl) ?_
  refine gm_c_virtH (k := 1) (ci := 0) (mj := 123) (ix := 17) (pc := 3) (as := []) (st := [gm_vi 0, gm_vr 245]) (d' := 26) (bc' := 4) (bs' := 454) (by decide +kernel) (by decide +kernel) (by decide +kernel) k1.1 k1.2 (by decide) (by decide +kernel) (show 0 = gm_na 123 by decide +kernel) fw_c0 (show 1 ≤ gm_ml 123 by decide +kernel) (Nat.le_of_ble_eq_true rfl) (by decide) (Nat.le_refl _) (Nat.le_refl _) ?_
  refine lv_law hF he (fun hg n2 K2 R2 M2 hn hk => ?_) (fun hg n2 K2 R2 M2 hn hk => ?_)
  · show gm_Wp X LX 27 _ _ 122 6 (gm_ent 122 [gm_vr 1, gm_vr 245]) [gm_vi (g_law (M 2) e).2, gm_vi 0, gm_vr 245] n2 K2 R2 M2 Q
    have q245 : K2 245 = (2, 1) := (hk 245 (Nat.le_refl _)).trans k245
    have b3 := b1 hg
    have w : gm_w (g_law (M 2) e).2 = (g_law (M 2) e).2 := gm_w_id (by omega) (by omega)
    refine gm_sz (gm_p_i2l (pc := 6) (by decide +kernel)) ?_
    refine gm_sz (gm_p_last (pc := 7) (k := 245) (by decide +kernel) ⟨by decide, hn⟩ (by rw [q245]) (by rw [q245]; decide)) ?_
    refine gm_sz (gm_p_goto (pc := 8) (off := 6) (by decide +kernel) (by decide)) ?_
    refine gm_sz (gm_p_const (pc := 14) (i := .iconst 0) (v := gm_vi 0) (by decide +kernel) (by decide +kernel)) ?_
    exact gm_r_int (pc := 15) (by decide +kernel) (Or.inl (by decide +kernel)) (h1 hg _ _ _ _ hn hk (by rw [w]; exact uM_at))
  · show (match gm_hit (gm_ow 122) 3 0 false (gm_hh 122) with
      | some (some h) => gm_Wp X LX 27 _ _ 122 h (gm_ent 122 [gm_vr 1, gm_vr 245]) [gm_vo 4000] n2 K2 R2 M2 Q
      | some none => Q (.inr 0) n2 K2 R2 M2
      | none => False)
    rw [lv_hit]
    show gm_Wp X LX 27 _ _ 122 11 (gm_ent 122 [gm_vr 1, gm_vr 245]) [gm_vo 4000] n2 K2 R2 M2 Q
    refine gm_sz (gm_p_stor (pc := 11) (i := .astore_n 2) (sr := 2) (j := 2) (by decide +kernel) rfl (show 3 ≤ _ from Nat.le_of_ble_eq_true rfl) rfl) ?_
    refine gm_sz (gm_p_const (pc := 12) (i := .iconst 1) (v := gm_vi 1) (by decide +kernel) (by decide +kernel)) ?_
    exact gm_r_int (pc := 13) (by decide +kernel) (Or.inl (by decide +kernel)) (h0 hg _ _ _ _ hn hk)
end LV
end
/-! 79m.lr -/
section
/-! THE REFERENCE'S law() tells what the grammar tells. -/
def lr_us : ck_Sum := ((0, 0, 0), 245, [.inr (.inr (.inl 226))], ([], [], [(226, 8, 8, (0, 400, [(7, 0)]))]), ([(226, 0, 0), (226, 8, 10)], []), [(.inr none, 245, ([], [], [(226, 9, 9, ck_one 0), (226, 8, 8, ck_one 0), (226, 10, 10, (0, 400, [(7, 0)])), (226, 0, 0, ck_one 0)]))])
theorem lr_us_e : ck_ok p2_O none [] [] 244 [] 60 lr_us = true := by decide +kernel
def lr_f (v : Int) : ck_F := ([], [], (lw_f v).2.2 ++ [(226, 0, 0, ck_one 0)])
def lr_F (k : Int) : ck_F := ([], [], [(0, 2, 2, ck_one k), (227, 1244, 1244, ck_one k), (226, 8, 8, ck_one 0), (226, 0, 0, ck_one 0)])
def lr_C (k : Int) : ck_C := (lw_A k, lr_F k, 0, .inl 2, true)
def lr_o (k : Int) : List ck_Oc := [(.inr (some (.inl (ck_one k))), 245, ([], [], [(226, 0, 0, ck_one 0)]))]
def lr_om : List ck_Oc := [(.inr (some (.inl (ck_one 0))), 245, ([], [], [(226, 0, 0, ck_one 1)]))]
set_option maxRecDepth 100000 in
theorem lr_g5 : (List.range 13).all (fun (k : Nat) => ck_go pg_O none [] lw_E3 283 33 245 lw_W (lr_o k) [(52, lr_C k)] 200 false [(52, lr_C k, 0, 0, 245)] 0 0 5 [some (.inr (.inr (.inl 226))), none, none] [(.inl (ck_one k), none)] 245 (lr_f k)) = true := by decide +kernel
set_option maxRecDepth 100000 in
theorem lr_gm : ck_go pg_O none [] lw_E3 283 33 245 lw_W lr_om [] 200 false [] 0 0 5 [some (.inr (.inr (.inl 226))), none, none] [(.inl (ck_one (-1)), none)] 245 (lr_f (-1)) = true := by decide +kernel
set_option maxRecDepth 100000 in
theorem lr_g85 : (List.range 13).all (fun (k : Nat) => ck_go pg_O none [] lw_E3 283 33 245 lw_W (lr_o k) [] 200 false [] 0 0 85 (lw_B k) [] 245 ([], [], ck_cws [(227, 395, 1243)] (lr_F k).2.2)) = true := by decide +kernel
theorem lr_cu : (List.range 13).all (fun (k : Nat) => ck_cu [(52, lr_C k)]) = true := by decide +kernel
section LR
variable {X : Int → Int} {LX : Nat} {Q : gm_Q}
theorem lr_us_s : ck_Ok p2_O X LX 244 lr_us := ck_ok_s ⟨p2_nmu, ck_E0⟩ ck_X0 ck_l0 lr_us_e
theorem lr_52 {σ σ0 : Nat → Int} {K0 : gm_K} {R0 : gm_R} {M0 : gm_M} {k : Nat} (hk : k < 13) (hσ : ∀ s, s < 100 → σ s = σ0 s) : ck_Hy pg_O X LX 283 33 lw_W 245 K0 R0 M0 (ck_Q pg_O σ0 lw_W 245 K0 R0 M0 (lr_o k)) σ (52, lr_C k, 0, 0, 245) := by
  refine ck_cpH (v := 2) (A := 227) (B := 227) (N := 849) (wa := 395) (wb := 1243) (pc' := 85) (f := 200) (cuts := []) (ch := []) (by decide) lw_hE3 hσ ⟨by decide, by decide⟩ (by decide +kernel) (fun bc bs L K R M hS => ?_) (List.all_eq_true.mp lr_g85 k (List.mem_range.mpr hk)) (fun _ h => nomatch h)
  obtain ⟨hF, hl, -, hf, -⟩ := hS
  have hF : gm_Fx pg_O 245 K R M := hF
  have hP := pg_p2 hF
  have hl : ck_gl σ (lw_A k) L := hl
  have hf : ck_gf σ (lr_F k) 245 K R M := hf
  obtain ⟨u0, l0, g0⟩ := hl.2 0 (.inr (.inr (.inl 226))) rfl
  cases g0
  obtain ⟨u1, l1, y1, rfl, -⟩ := hl.2 1 (.inl (ck_one k)) rfl
  obtain ⟨u2, lv, x1, rfl, -, e1, e2, -⟩ := hl.2 2 (.inl (ck_one 0)) rfl
  have e1 : (0 : Int) ≤ x1 := e1
  have e2 : x1 ≤ (0 : Int) := e2
  have e3 : x1 = 0 := by omega
  subst e3
  have q2 := ((hf.2.2 (0, 2, 2, ck_one k) List.mem_cons_self).2 2 (Int.le_refl _) (Int.le_refl _)).2
  have q21 : (k : Int) ≤ M 0 2 := q2.1
  have q22 : M 0 2 ≤ (k : Int) := q2.2.1
  have q4 := ((hf.2.2 (227, 1244, 1244, ck_one k) (List.mem_cons_of_mem _ List.mem_cons_self)).2 1244 (Int.le_refl _) (Int.le_refl _)).2
  have q41 : (k : Int) ≤ M 227 1244 := q4.1
  have q42 : M 227 1244 ≤ (k : Int) := q4.2.1
  have kA := (md_kd hP md_o.1.2).2
  obtain ⟨hJ, hX⟩ := hF.2.2.2.2
  obtain ⟨-, ⟨b1, b2, b3⟩, -⟩ := hX.1
  have hT : jT (fun j => M 227 (1244 + j)) := jT_of (c := M 0 2) (e := M 0 1) (by omega) (by show M 227 (1244 + 0) ≤ M 0 2; rw [Int.add_zero]; omega) hX.2.2
  have hgx : ∀ j, ¬ (395 ≤ j ∧ j < 395 + 849) → gm_cpy M 227 227 395 1244 849 227 j = M 227 j := fun j hj => gm_cpy_out hj
  have hJ2 : j_J p2_ty K (gm_cpy M 227 227 395 1244 849) := by
    unfold j_J at hJ ⊢
    rw [gm_cpy_f (by decide : ¬ 228 = 227), gm_cpy_f (by decide : ¬ 229 = 227), gm_cpy_f (by decide : ¬ 230 = 227)]
    refine j_law hJ (fun j h1 h2 => hgx j (by omega)) (jT_cg (fun j h1 h2 => ?_) hT)
    show gm_cpy M 227 227 395 1244 849 227 (395 + j) = M 227 (1244 + j)
    exact gm_cpy_at ⟨by omega, by omega⟩ (by omega)
  refine ⟨395, 1244, ⟨by decide, by decide⟩, p2_pg (gm_Fx_cpy hP (cp_tc_s hP lw_tc) hJ2) (jX_cg (fun c r hr j j1 j2 => ?_) hX), fun Q hx => ?_⟩
  · by_cases e : c = 227
    · subst e
      have := of_decide_eq_true (List.all_eq_true.mp (show (jg_e 227).all (fun r => decide (1247 ≤ r.1)) = true by decide +kernel) r hr)
      exact hgx j (by omega)
    · exact gm_cpy_ne e
  · exact cp_lp (iv := .iload_n 2) (v := 2) (ixA := 13) (ixB := 13) (jA := 1) (jB := 1) (A := 227) (B := 227) (mo := 226) (p := 52) (qA := 68) (qB := 77) (N := 849) (a := 395) (b := 1244) (offe := 29) (offb := (-30)) (by decide) (md_mo hP) (md_kd hP md_o.1.2).1 (md_kd hP md_o.1.2).1 (md_rf hP md_r.1.1) (md_rf hP md_r.1.1) (by decide +kernel) (by decide +kernel) (by decide +kernel) (by decide +kernel) ⟨by omega, ⟨by omega, by omega⟩, ⟨by omega, by omega⟩, by omega, by omega⟩ (fun _ => by decide) (by decide) (by decide +kernel) l0 lv ⟨rfl, rfl⟩ ⟨gm_vi y1, l1, by simp [gm_sort]⟩ (by decide +kernel) (by decide +kernel) (by decide +kernel) (by decide) (by decide +kernel) (by decide +kernel) (cp_sg_ci (iv := .iload_n 2) (c := 395) lv ⟨rfl, rfl⟩ (by decide +kernel) (by decide +kernel) (by decide +kernel) (by decide +kernel)) (by decide +kernel) (by decide +kernel) (cp_sg_ci (iv := .iload_n 2) (c := 1244) lv ⟨rfl, rfl⟩ (by decide +kernel) (by decide +kernel) (by decide +kernel) (by decide +kernel)) (by decide +kernel) (by decide +kernel) (by decide +kernel) (by decide +kernel) (by decide) (by decide) hx
noncomputable def lr_Qf (f : Int → Int) (e : Int) : gm_Q := fun o _ _ _ _ => ((g_law f e).1 = true ∧ o = .inl (some (gm_vi (g_law f e).2))) ∨ (¬ (g_law f e).1 = true ∧ o = .inl (some (gm_vi (-1))))
theorem lr_tR {K : gm_K} {R : gm_R} {M : gm_M} (hF : gm_Fx p2_O 245 K R M) : tR 245 K R M (M 226 10) := by
  have kd : ∀ k e, p2_O.1 k = some e → (1 ≤ k ∧ k ≤ 245) ∧ K k = e := fun k e h => ⟨⟨(hF.1 k e h).1, (hF.1 k e h).2.1⟩, (hF.1 k e h).2.2⟩
  have rf : ∀ k j r, p2_O.2.1 k j = some r → R k j = r := fun k j r h => (hF.2.1 k j r h).2
  exact ⟨⟨kd 226 _ (by decide +kernel), kd 227 _ (by decide +kernel), kd 231 _ (by decide +kernel)⟩, ⟨rf 226 1 _ (by decide +kernel), rf 226 7 _ (by decide +kernel)⟩, ⟨rfl, ((gm_tyr_s hF (show gm_tyr p2_O 226 10 10 = some (0, 400) by decide +kernel)).2 10 (Int.le_refl _) (Int.le_refl _)).2⟩, fun j h1 h2 => ((gm_tyr_s hF (show gm_tyr p2_O 231 0 399 = some (-128, 127) by decide +kernel)).2 j h1 (by omega)).2⟩
theorem lr_law {K : gm_K} {R : gm_R} {M : gm_M} {e : Int} (hF : gm_Fx p2_O 245 K R M) (he : M 226 8 = e) (h1 : (g_law (M 231) e).1 = true → ∀ (K2 : gm_K) R2 M2, (∀ c, c ≤ 245 → K2 c = K c) → M2 226 0 = 0 → Q (.inl (some (gm_vi (g_law (M 231) e).2))) 245 K2 R2 M2) (h0 : ¬ (g_law (M 231) e).1 = true → ∀ (K2 : gm_K) R2 M2, (∀ c, c ≤ 245 → K2 c = K c) → M2 226 0 = 1 → Q (.inl (some (gm_vi 0))) 245 K2 R2 M2) : gm_Wp X LX 34 0 0 283 0 (gm_ent 283 [gm_vr 226]) [] 245 K R M Q := by
  have te := (gm_tyr_s hF (show gm_tyr p2_O 226 8 8 = some (0, 400) by decide +kernel)).2 8 (Int.le_refl _) (Int.le_refl _)
  have te2 : 0 ≤ e ∧ e ≤ 400 := by have := te.2; rw [he] at this; exact this
  obtain ⟨b0, b1, b2⟩ := g_law_b (f := M 231) te2.1
  refine gm_sz (gm_p_load (pc := 0) (i := .aload_n 0) (sr := 2) (j := 0) (by decide +kernel) rfl rfl rfl) ?_
  refine gm_sz (gm_p_const (pc := 1) (i := .iconst 0) (v := gm_vi 0) (by decide +kernel) (by decide +kernel)) ?_
  refine gm_c_virt (k := 226) (ci := 11) (mj := 243) (ix := 296) (pc := 2) (as := [gm_vi 0]) (st := []) (d' := 33) (bc' := 0) (bs' := 0) (by decide +kernel) (by decide +kernel) (by decide +kernel) (by decide +kernel) (md_mo hF).1 (md_mo hF).2 (by decide) (by decide +kernel) (show 1 = gm_na 243 by decide +kernel) (fw_c1 fw_si) (show 1 + 1 ≤ gm_ml 243 by decide +kernel) (Nat.le_of_ble_eq_true rfl) (by decide) (Nat.zero_le _) (Nat.zero_le _) ?_
  refine gm_sz (gm_p_load (pc := 0) (i := .aload_n 0) (sr := 2) (j := 0) (by decide +kernel) rfl rfl rfl) ?_
  refine gm_c_virt (k := 226) (ci := 11) (mj := 244) (ix := 289) (pc := 1) (as := []) (st := []) (d' := 0) (bc' := 0) (bs' := 0) (by decide +kernel) (by decide +kernel) (by decide +kernel) (by decide +kernel) (md_mo hF).1 (md_mo hF).2 (by decide) (by decide +kernel) (show 0 = gm_na 244 by decide +kernel) fw_c0 (show 0 + 1 ≤ gm_ml 244 by decide +kernel) (Nat.le_of_ble_eq_true rfl) (by decide) (Nat.zero_le _) (Nat.zero_le _) ?_
  have hs := ck_sn_s (σ := fun _ => 0) (M := M) p2_nmu
  have hs7 : ck_sn p2_O (fun _ => 0) M 7 = M 226 8 := hs (7, 226, 8) (show (7, 226, 8) ∈ p2_nm by decide)
  refine gm_Wp_mono (fun o n K1 R1 M1 h => ?_) (lr_us_s 0 (ck_sn p2_O (fun _ => 0) M) [gm_vr 226] 245 K R M (Nat.le_refl _) rfl ⟨_, _, rfl, rfl, rfl⟩ hs hF ⟨(fun _ h => nomatch h), (fun _ h => nomatch h), fun q hq => ?_⟩)
  rotate_left
  · rw [List.mem_singleton.mp hq]
    refine ⟨by decide, fun j j1 j2 => ?_⟩
    have : j = 8 := Int.le_antisymm j2 j1
    subst this
    exact ⟨te.1, te.2.1, te.2.2, ck_gt1 (by decide) (show M 226 8 = ck_sn p2_O (fun _ => 0) M 7 + 0 by rw [hs7]; omega)⟩
  obtain ⟨f1, f2, oc, f3, f4, f5, f6⟩ := h
  rw [List.mem_singleton.mp f3] at f4 f5 f6
  have f5 : n = 245 := f5
  subst f5
  have z := fun (j : Int) (I : ck_I) (hm : (226, j, j, I) ∈ ([(226, 9, 9, ck_one 0), (226, 8, 8, ck_one 0), (226, 10, 10, (0, 400, [(7, 0)])), (226, 0, 0, ck_one 0)] : List (Nat × Int × Int × ck_I))) => ((f6.2.2 _ hm).2 j (Int.le_refl _) (Int.le_refl _)).2
  have r9 : M1 226 9 = 0 := Int.le_antisymm (z 9 (ck_one 0) (by simp)).2.1 (z 9 (ck_one 0) (by simp)).1
  have r8 : M1 226 8 = 0 := Int.le_antisymm (z 8 (ck_one 0) (by simp)).2.1 (z 8 (ck_one 0) (by simp)).1
  have r0 : M1 226 0 = 0 := Int.le_antisymm (z 0 (ck_one 0) (by simp)).2.1 (z 0 (ck_one 0) (by simp)).1
  have r10 : M1 226 10 = e := by
    have a := (z 10 (0, 400, [(7, 0)]) (by simp)).2.2 (7, 0) List.mem_cons_self
    have a := a.1 (by decide)
    have a : M1 226 10 = ck_sn p2_O (fun _ => 0) M 7 + 0 := a
    rw [a, hs7, he, Int.add_zero]
  have r231 : M1 231 = M 231 := funext fun j => f2.2.2.1 231 j (by decide) (fun w hw hh => by
    have := List.all_eq_true.mp (show lr_us.2.2.2.2.1.1.all (fun w => decide (¬ w.1 = 231)) = true by decide) w hw
    exact absurd hh.1 (of_decide_eq_true this))
  rcases o with (_ | v) | x
  case inl.some => exact absurd f4 id
  case inr => exact absurd f4 id
  show gm_Wp X LX 33 0 0 243 4 (gm_ent 243 [gm_vr 226, gm_vi 0]) [] 245 K1 R1 M1 _
  refine gm_sz (gm_p_load (pc := 4) (i := .aload_n 0) (sr := 2) (j := 0) (by decide +kernel) rfl rfl rfl) ?_
  refine gm_sz (gm_p_const (pc := 5) (i := .iconst 0) (v := gm_vi 0) (by decide +kernel) (by decide +kernel)) ?_
  refine gm_sz (gm_p_puti (pc := 6) (ix := 224) (ci := 11) (j := 15) (by decide +kernel) (md_mo f1).1 (md_mo f1).2 (by decide +kernel) (by decide +kernel) (Or.inl (by decide +kernel))) ?_
  have e9 : gm_uM M1 226 15 0 = rm M1 0 (M1 226 11) (M1 226 12) 0 (M1 227) := by
    have a := rm_st (M := M1) (pt := M1 226 9) (bg := M1 226 11) (dp := M1 226 12) (st := M1 226 15) (W := M1 227) (x := 0)
    rw [rm_id, r9] at a
    exact a
  have hT := lr_tR f1
  rw [r10] at hT
  have hfun : gm_Wp X LX 33 0 0 243 9 (gm_ent 243 [gm_vr 226, gm_vi 0]) [] 245 K1 R1 (gm_uM M1 226 15 0) (lr_Qf (M 231) e) := by
    rw [e9]
    refine tr_a243 (by decide) hT none (fun p2 bg2 dp2 st2 W2 g => Or.inl ?_) (fun p2 dp2 st2 W2 g => Or.inr ?_)
    · rw [r231] at g ⊢
      exact ⟨g, rfl⟩
    · rw [r231] at g
      exact ⟨g, rfl⟩
  refine gm_Wp_mono (fun o n K2 R2 M2 h => ?_) (gm_Wp_and (gm_Wp_wk (d' := 32) (by decide) (Nat.le_refl _) (Nat.le_refl _) (lw_9 (σ := fun _ => 0) f1 (by omega) (by omega) rfl rfl rfl)) hfun)
  obtain ⟨⟨g1, g2, oc, g3, g4, g5, g6⟩, o3, n3, K3, R3, M3, hq, hdo, -⟩ := h
  obtain ⟨v, hv, rfl⟩ := List.mem_map.mp g3
  have g5 : n = 245 := g5
  subst g5
  rcases o with (_ | u) | x
  case inl.none => exact absurd g4 id
  case inr => exact absurd g4 id
  obtain ⟨x, rfl, gx, gi⟩ := g4
  have gi1 : v ≤ x := gi.1
  have gi2 : x ≤ v := gi.2.1
  have gi3 : x = v := Int.le_antisymm gi2 gi1
  have hv2 : v = -1 ∨ ∃ k : Nat, k < 13 ∧ v = (k : Int) := by
    have := List.all_eq_true.mp (show lw_l.all (fun v => decide (v = -1 ∨ (0 ≤ v ∧ v < 13))) = true by decide) v hv
    rcases of_decide_eq_true this with h | h
    · exact Or.inl h
    · exact Or.inr ⟨v.toNat, by omega, by omega⟩
  have t0 : M2 226 0 = 0 := by
    have a := g2.2.2.1 226 0 (by decide) (fun w hw hh => by
      have := List.all_eq_true.mp (show lw_W9.1.all (fun w => decide (¬ (w.1 = 226 ∧ w.2.1 ≤ 0 ∧ 0 ≤ w.2.2))) = true by decide) w hw
      exact absurd hh (of_decide_eq_true this))
    rw [a, lw_Mx (by decide) (by omega)]
    exact r0
  have hkk : ∀ c, c ≤ 245 → K2 c = K c := fun c hc => (g2.2.1 c hc).trans (f2.2.1 c hc)
  show gm_Wp X LX 34 0 0 283 5 (gm_ent 283 [gm_vr 226]) [gm_vi x] 245 K2 R2 M2 _
  have hst : ck_St pg_O (fun _ => 0) lw_W 245 K2 R2 M2 [some (.inr (.inr (.inl 226))), none, none] [(.inl (ck_one v), none)] (lr_f v) (gm_ent 283 [gm_vr 226]) [gm_vi x] 245 K2 R2 M2 := by
    refine ⟨g1, ⟨rfl, fun j c hc => ?_⟩, ⟨_, _, rfl, ⟨⟨x, rfl, gx, gi⟩, trivial⟩, rfl⟩, ⟨g6.1, g6.2.1, fun q hq => ?_⟩, ck_fr_0⟩
    · rcases j with _ | _ | _ | j
      · cases hc; exact ⟨_, rfl, rfl⟩
      · cases hc
      · cases hc
      · cases hc
    · rcases List.mem_append.mp hq with hq | hq
      · exact g6.2.2 q hq
      · rw [List.mem_singleton.mp hq]
        refine ⟨by decide, fun j j1 j2 => ?_⟩
        have : j = 0 := Int.le_antisymm j2 j1
        subst this
        show gm_ir (M2 226 0) ∧ ck_gi (fun _ => 0) (ck_one 0) (M2 226 0)
        rw [t0]
        exact ⟨⟨by decide, by decide⟩, ck_one_s 0⟩
  rcases hv2 with rfl | ⟨k, hk, rfl⟩
  · refine gm_Wp_mono (fun o n K4 R4 M4 h => ?_) (gm_Wp_wk (d' := 33) (by decide) (Nat.le_refl _) (Nat.le_refl _) (ck_go_s (σ0 := fun _ => 0) (outs := lr_om) (cuts := []) (by decide) lw_hE3 ck_X0 ck_l0 200 false [] 0 0 5 _ _ 245 _ (fun _ => 0) _ _ K2 R2 M2 (fun _ _ => rfl) (fun _ h => nomatch h) hst lr_gm))
    obtain ⟨e1, e2, oc, e3, e4, e5, e6⟩ := h
    rw [List.mem_singleton.mp e3] at e4 e5 e6
    have e5 : n = 245 := e5
    subst e5
    rcases o with (_ | u) | x9
    case inl.none => exact absurd e4 id
    case inr => exact absurd e4 id
    obtain ⟨y, rfl, -, y1, y2, -⟩ := e4
    have y3 : y = 0 := Int.le_antisymm y2 y1
    subst y3
    have u0 := ((e6.2.2 _ List.mem_cons_self).2 0 (Int.le_refl _) (Int.le_refl _)).2
    have u1 : M4 226 0 = 1 := Int.le_antisymm u0.2.1 u0.1
    rcases hq with ⟨hg, rfl⟩ | ⟨hg, rfl⟩
    · have hdo : Int32.ofInt x = Int32.ofInt (g_law (M 231) e).2 := hdo
      have b3 := b1 hg
      have := dt_i hdo gx ⟨by omega, by omega⟩
      omega
    · exact h0 hg _ _ _ (fun c hc => (e2.2.1 c hc).trans (hkk c hc)) u1
  · refine gm_Wp_mono (fun o n K4 R4 M4 h => ?_) (gm_Wp_wk (d' := 33) (by decide) (Nat.le_refl _) (Nat.le_refl _) (ck_go_s (σ0 := fun _ => 0) (outs := lr_o k) (cuts := [(52, lr_C k)]) (List.all_eq_true.mp lr_cu k (List.mem_range.mpr hk)) lw_hE3 ck_X0 ck_l0 200 false [(52, lr_C k, 0, 0, 245)] 0 0 5 _ _ 245 _ (fun _ => 0) _ _ K2 R2 M2 (fun _ _ => rfl) (fun z hz => ?_) hst (List.all_eq_true.mp lr_g5 k (List.mem_range.mpr hk))))
    · obtain ⟨e1, e2, oc, e3, e4, e5, e6⟩ := h
      rw [List.mem_singleton.mp e3] at e4 e5 e6
      have e5 : n = 245 := e5
      subst e5
      rcases o with (_ | u) | x9
      case inl.none => exact absurd e4 id
      case inr => exact absurd e4 id
      obtain ⟨y, rfl, -, y1, y2, -⟩ := e4
      have y1 : (k : Int) ≤ y := y1
      have y2 : y ≤ (k : Int) := y2
      have y3 : y = (k : Int) := Int.le_antisymm y2 y1
      have u0 := ((e6.2.2 _ List.mem_cons_self).2 0 (Int.le_refl _) (Int.le_refl _)).2
      have u1 : M4 226 0 = 0 := Int.le_antisymm u0.2.1 u0.1
      rcases hq with ⟨hg, rfl⟩ | ⟨hg, rfl⟩
      · have hdo : Int32.ofInt x = Int32.ofInt (g_law (M 231) e).2 := hdo
        have b3 := b1 hg
        have b4 := dt_i hdo gx ⟨by omega, by omega⟩
        rw [y3, ← gi3, b4]
        exact h1 hg _ _ _ (fun c hc => (e2.2.1 c hc).trans (hkk c hc)) u1
      · have hdo : Int32.ofInt x = Int32.ofInt (-1) := hdo
        have := dt_i hdo gx ⟨by decide, by decide⟩
        omega
    · rw [List.mem_singleton.mp hz]
      exact ⟨List.mem_cons_self, lr_52 hk (fun _ _ => rfl)⟩
end LR
end
/-! 79n.fd -/
section
/-! FEED: the bytes that both lay behind the TAPE (laid by wip/pp/p5f.py). -/
theorem fw_div {a b : Int} (h : 0 ≤ a) (h2 : a < 2147483648) (hb : 0 < b ∧ b < 2147483648) : gm_div a b = a / b := by
  unfold gm_div
  rw [gm_w_id (by omega) h2, gm_w_id (by omega) hb.2, Int.tdiv_eq_ediv_of_nonneg h]
theorem fw_rem {a b : Int} (h : 0 ≤ a) (h2 : a < 2147483648) (hb : 0 < b ∧ b < 2147483648) : gm_rem a b = a % b := by
  unfold gm_rem
  rw [gm_w_id (by omega) h2, gm_w_id (by omega) hb.2, Int.tmod_eq_emod_of_nonneg h]
/-- the byte r of an int, the highest first -/
def fb (x r : Int) : Int := gm_wb (gm_w x / (if r = 0 then 16777216 else if r = 1 then 65536 else if r = 2 then 256 else 1))
theorem wb_wb {x : Int} : gm_wb (gm_wb x) = gm_wb x := by unfold gm_wb; omega
theorem fb_ir {x r : Int} : -128 ≤ fb x r ∧ fb x r ≤ 127 := by unfold fb gm_wb; omega
theorem fb_sh {x s p : Int} {k : Nat} (hs : ((Int32.ofInt s &&& 31).toBitVec.smod 32).toNat = k) (hp : (2 : Int) ^ k = p) : gm_shr x s = gm_w x / p := by
  unfold gm_shr
  rw [pk_shr _ _ k hs, Int.shiftRight_eq_div_pow, gm_w_toInt]
  congr 1
theorem fb_us {x s p : Int} {k : Nat} (hs : (((Int32.ofInt s).toUInt32 &&& Int32.toUInt32 31).toBitVec % 32).toNat = k) (hp : 2 ^ k = p.toNat) (hp0 : 0 ≤ p) : ∃ N : Int, (N = gm_w x ∨ N = gm_w x + 4294967296) ∧ (gm_ushr x s = N / p ∨ gm_ushr x s = N / p - 4294967296) := by
  have h1 := pk_ushr (Int32.ofInt x) (Int32.ofInt s) k hs
  refine ⟨((Int32.ofInt x).toBitVec.toNat : Int), ?_, ?_⟩
  · rw [← gm_w_toInt]
    show _ = (Int32.ofInt x).toBitVec.toInt ∨ _ = (Int32.ofInt x).toBitVec.toInt + 4294967296
    rw [BitVec.toInt_eq_toNat_cond]
    split <;> omega
  · unfold gm_ushr
    generalize ((Int32.ofInt x).toUInt32 >>> ((Int32.ofInt s).toUInt32 &&& Int32.toUInt32 31)).toInt32 = y at h1 ⊢
    have h2 : ((y.toBitVec.toNat : Nat) : Int) = ((Int32.ofInt x).toBitVec.toNat : Int) / p := by
      rw [h1, hp, Int.natCast_ediv, Int.toNat_of_nonneg hp0]
    show y.toBitVec.toInt = _ ∨ y.toBitVec.toInt = _
    rw [BitVec.toInt_eq_toNat_cond]
    split <;> omega
theorem fb0s {x : Int} : gm_wb (gm_shr x 24) = fb x 0 := by
  rw [fb_sh (s := 24) (p := 16777216) (k := 24) (by decide) (by decide)]
  rfl
theorem fb0u {x : Int} : gm_wb (gm_ushr x 24) = fb x 0 := by
  rw [← fb0s, fb_sh (s := 24) (p := 16777216) (k := 24) (by decide) (by decide)]
  obtain ⟨N, h1, h2⟩ := fb_us (x := x) (s := 24) (p := 16777216) (k := 24) (by decide) (by decide) (by decide)
  have := gm_w_lo x
  have := gm_w_hi x
  unfold gm_wb
  rcases h1 with h1 | h1 <;> rcases h2 with h2 | h2 <;> rw [h2] <;> subst h1 <;> omega
theorem fb1s {x : Int} : gm_wb (gm_shr x 16) = fb x 1 := by
  rw [fb_sh (s := 16) (p := 65536) (k := 16) (by decide) (by decide)]
  rfl
theorem fb1u {x : Int} : gm_wb (gm_ushr x 16) = fb x 1 := by
  rw [← fb1s, fb_sh (s := 16) (p := 65536) (k := 16) (by decide) (by decide)]
  obtain ⟨N, h1, h2⟩ := fb_us (x := x) (s := 16) (p := 65536) (k := 16) (by decide) (by decide) (by decide)
  have := gm_w_lo x
  have := gm_w_hi x
  unfold gm_wb
  rcases h1 with h1 | h1 <;> rcases h2 with h2 | h2 <;> rw [h2] <;> subst h1 <;> omega
theorem fb2s {x : Int} : gm_wb (gm_shr x 8) = fb x 2 := by
  rw [fb_sh (s := 8) (p := 256) (k := 8) (by decide) (by decide)]
  rfl
theorem fb2u {x : Int} : gm_wb (gm_ushr x 8) = fb x 2 := by
  rw [← fb2s, fb_sh (s := 8) (p := 256) (k := 8) (by decide) (by decide)]
  obtain ⟨N, h1, h2⟩ := fb_us (x := x) (s := 8) (p := 256) (k := 8) (by decide) (by decide) (by decide)
  have := gm_w_lo x
  have := gm_w_hi x
  unfold gm_wb
  rcases h1 with h1 | h1 <;> rcases h2 with h2 | h2 <;> rw [h2] <;> subst h1 <;> omega
theorem fb3s {x : Int} : gm_wb (gm_shr x 0) = fb x 3 := by
  rw [fb_sh (s := 0) (p := 1) (k := 0) (by decide) (by decide)]
  rfl
theorem fb3u {x : Int} : gm_wb (gm_ushr x 0) = fb x 3 := by
  rw [← fb3s, fb_sh (s := 0) (p := 1) (k := 0) (by decide) (by decide)]
  obtain ⟨N, h1, h2⟩ := fb_us (x := x) (s := 0) (p := 1) (k := 0) (by decide) (by decide) (by decide)
  have := gm_w_lo x
  have := gm_w_hi x
  unfold gm_wb
  rcases h1 with h1 | h1 <;> rcases h2 with h2 | h2 <;> rw [h2] <;> subst h1 <;> omega
/-- k bytes of the numbers a behind t -/
def fdc (a : Int → Int) (t k : Int) (f : Int → Int) : Int → Int := fun i => if t ≤ i ∧ i < t + k then fb (a ((i - t) / 4)) ((i - t) % 4) else f i
theorem fdc_0 {a f : Int → Int} {t : Int} : fdc a t 0 f = f := by
  funext i
  unfold fdc
  rw [if_neg (by omega)]
theorem fdc_s {a f : Int → Int} {t k v : Int} (hk : 0 ≤ k) (hv : v = fb (a (k / 4)) (k % 4)) : (fun i => if i = t + k then v else fdc a t k f i) = fdc a t (k + 1) f := by
  funext i
  unfold fdc
  by_cases h : i = t + k
  · rw [if_pos h, if_pos (by omega), hv, show i - t = k by omega]
  · rw [if_neg h]
    by_cases h2 : t ≤ i ∧ i < t + k
    · rw [if_pos h2, if_pos (by omega)]
    · rw [if_neg h2, if_neg (by omega)]
/-- the class's TAPE: how long, the bytes -/
def fe (M : gm_M) (t : Int) (F : Int → Int) : gm_M := fun a j => if a = 1 ∧ j = 1 then t else if a = 2 then F j else M a j
section FD
variable {X : Int → Int} {LX d bc bs n : Nat} {K : gm_K} {R : gm_R} {M : gm_M} {Q : gm_Q} {t m x T : Int} {a f F : Int → Int}
theorem fe_1 : fe M T F 1 ((1 : Nat) : Int) = T := by unfold fe; rw [if_pos ⟨rfl, rfl⟩]
theorem fe_t : gm_uM (fe M T F) 1 ((1 : Nat) : Int) x = fe M x F := by
  funext b j
  by_cases h1 : b = 1 <;> by_cases h2 : j = 1 <;> simp [gm_uM, fe, h1, h2]
theorem fe_p {j : Int} : gm_uM (fe M T F) 2 j x = fe M T (fun i => if i = j then x else F i) := by
  funext b i
  by_cases h1 : b = 2 <;> by_cases h2 : i = j <;> simp [gm_uM, fe, h1, h2]
theorem fe_put {e k k2 v : Int} (he : e = t + k) (hk2 : k2 = k + 1) (hk : 0 ≤ k) (hv : v = fb (a (k / 4)) (k % 4)) : gm_uM (fe M T (fdc a t k f)) 2 e v = fe M T (fdc a t k2 f) := by
  rw [fe_p, he, hk2, fdc_s hk hv]
theorem fb0 (h0 : 0 ≤ m) (h4 : m ≤ 4) : gm_wb (gm_ushr (a m) 24) = fb (a ((4 * m + 0) / 4)) ((4 * m + 0) % 4) := by
  rw [fb0u, show (4 * m + 0) / 4 = m by omega, show (4 * m + 0) % 4 = 0 by omega]
theorem fb1 (h0 : 0 ≤ m) (h4 : m ≤ 4) : gm_wb (gm_ushr (a m) 16) = fb (a ((4 * m + 1) / 4)) ((4 * m + 1) % 4) := by
  rw [fb1u, show (4 * m + 1) / 4 = m by omega, show (4 * m + 1) % 4 = 1 by omega]
theorem fb2 (h0 : 0 ≤ m) (h4 : m ≤ 4) : gm_wb (gm_ushr (a m) 8) = fb (a ((4 * m + 2) / 4)) ((4 * m + 2) % 4) := by
  rw [fb2u, show (4 * m + 2) / 4 = m by omega, show (4 * m + 2) % 4 = 2 by omega]
theorem fb3 (h0 : 0 ≤ m) (h4 : m ≤ 4) : gm_wb (gm_ushr (a m) 0) = fb (a ((4 * m + 3) / 4)) ((4 * m + 3) % 4) := by
  rw [fb3u, show (4 * m + 3) / 4 = m by omega, show (4 * m + 3) % 4 = 3 by omega]
theorem fd_c20 (hk1 : (1 ≤ 1 ∧ 1 ≤ n) ∧ (K 1).1 = 0 + 4) (e2 : (1 ≤ 2 ∧ 2 ≤ n) ∧ K 2 = (1, 400)) (hr : R 1 ((0 : Nat) : Int) = 2) (ht : 0 ≤ t ∧ t + 20 ≤ 400) (hm : 0 ≤ m ∧ m ≤ 4) (hq : Q (.inl none) n K R (fe M (t + (4 * m + 4)) (fdc a t (4 * m + 4) f))) : gm_Wp X LX d bc bs 20 0 (gm_ent 20 [gm_vr 1, gm_vi (a m)]) [] n K R (fe M (t + (4 * m + 0)) (fdc a t (4 * m + 0) f)) Q := by
  refine gm_sz (gm_p_const (pc := 0) (i := .bipush 24) (v := gm_vi 24) (by decide +kernel) (by decide +kernel)) ?_
  refine gm_sz (gm_p_stor (pc := 2) (i := .istore_n 2) (sr := 0) (j := 2) (by decide +kernel) rfl (show 3 ≤ _ from Nat.le_of_ble_eq_true rfl) rfl) ?_
  refine gm_sz (gm_p_load (pc := 3) (i := .iload_n 2) (sr := 0) (j := 2) (by decide +kernel) rfl rfl rfl) ?_
  refine fw_iffd (cc := .lt) (pc := 4) (off := 44) (by decide +kernel) (by decide) ⟨by decide, by decide⟩ (by decide) ?_
  refine gm_sz (gm_p_load (pc := 7) (i := .aload_n 0) (sr := 2) (j := 0) (by decide +kernel) rfl rfl rfl) ?_
  refine gm_sz (fw_gi (pc := 8) (ix := 13) (ci := 0) (j := 1) (x := t + (4 * m + 0)) (by decide +kernel) hk1 (by decide +kernel) (by decide +kernel) fe_1) ?_
  refine gm_sz (gm_p_load (pc := 11) (i := .aload_n 0) (sr := 2) (j := 0) (by decide +kernel) rfl rfl rfl) ?_
  refine gm_sz (fw_gr (pc := 12) (ix := 9) (ci := 0) (j := 0) (r := 2) (by decide +kernel) hk1 (by decide +kernel) (by decide +kernel) hr) ?_
  refine gm_sz (fw_al (pc := 15) (k := 2) (len := 400) (by decide +kernel) (e2 : (1 ≤ 2 ∧ 2 ≤ n) ∧ K 2 = (1, 400)).1 (e2 : (1 ≤ 2 ∧ 2 ≤ n) ∧ K 2 = (1, 400)).2 (by decide)) ?_
  refine fw_icf (cc := .ge) (pc := 16) (off := 26) (by decide +kernel) (by decide) ⟨by omega, by omega⟩ ⟨by decide, by decide⟩ (show ¬ 400 ≤ (t + (4 * m + 0)) by omega) ?_
  refine gm_sz (gm_p_load (pc := 19) (i := .aload_n 0) (sr := 2) (j := 0) (by decide +kernel) rfl rfl rfl) ?_
  refine gm_sz (fw_gr (pc := 20) (ix := 9) (ci := 0) (j := 0) (r := 2) (by decide +kernel) hk1 (by decide +kernel) (by decide +kernel) hr) ?_
  refine gm_sz (gm_p_load (pc := 23) (i := .aload_n 0) (sr := 2) (j := 0) (by decide +kernel) rfl rfl rfl) ?_
  refine gm_sz (fw_gi (pc := 24) (ix := 13) (ci := 0) (j := 1) (x := t + (4 * m + 0)) (by decide +kernel) hk1 (by decide +kernel) (by decide +kernel) fe_1) ?_
  refine gm_sz (gm_p_load (pc := 27) (i := .iload_n 1) (sr := 0) (j := 1) (by decide +kernel) rfl rfl rfl) ?_
  refine gm_sz (gm_p_load (pc := 28) (i := .iload_n 2) (sr := 0) (j := 2) (by decide +kernel) rfl rfl rfl) ?_
  refine gm_sz (gm_p_bin (pc := 29) (i := .iushr) (f := gm_ushr) (by decide +kernel) rfl) ?_
  refine gm_sz (gm_p_un (pc := 30) (i := .i2b) (f := fun x => gm_wb x) (by decide +kernel) rfl) ?_
  refine gm_sz (fw_bs (pc := 31) (k := 2) (len := 400) (e0 := t + (4 * m + 0)) (x := gm_wb (gm_ushr (a m) 24)) (M' := fe M (t + (4 * m + 0)) (fdc a t (4 * m + 1) f)) (by decide +kernel) (e2 : (1 ≤ 2 ∧ 2 ≤ n) ∧ K 2 = (1, 400)).1 (e2 : (1 ≤ 2 ∧ 2 ≤ n) ∧ K 2 = (1, 400)).2 (by decide) ⟨by omega, by omega⟩ (fe_put (k := 4 * m + 0) rfl (by omega) (by omega) (wb_wb.trans (fb0 (by omega) (by omega))))) ?_
  refine gm_sz (gm_p_load (pc := 32) (i := .aload_n 0) (sr := 2) (j := 0) (by decide +kernel) rfl rfl rfl) ?_
  refine gm_sz (gm_p_dup (pc := 33) (by decide +kernel) fw_sr) ?_
  refine gm_sz (fw_gi (pc := 34) (ix := 13) (ci := 0) (j := 1) (x := t + (4 * m + 0)) (by decide +kernel) hk1 (by decide +kernel) (by decide +kernel) fe_1) ?_
  refine gm_sz (gm_p_const (pc := 37) (i := .iconst 1) (v := gm_vi 1) (by decide +kernel) (by decide +kernel)) ?_
  refine gm_sz (gm_p_bin (pc := 38) (i := .iadd) (f := fun x y => x + y) (by decide +kernel) rfl) ?_
  refine gm_sz (fw_pi (pc := 39) (ix := 13) (ci := 0) (j := 1) (M' := fe M (t + (4 * m + 1)) (fdc a t (4 * m + 1) f)) (by decide +kernel) hk1 (by decide +kernel) (by decide +kernel) (by decide +kernel) (fe_t.trans (congrArg (fun z => fe M z _) (show t + (4 * m + 0) + 1 = t + (4 * m + 1) by omega)))) ?_
  refine gm_sz (gm_p_iinc (pc := 42) (j := 2) (z := (-8)) (by decide +kernel) rfl) ?_
  refine gm_sz (gm_p_goto (pc := 45) (off := (-42)) (by decide +kernel) (by decide)) ?_
  refine gm_sz (gm_p_load (pc := 3) (i := .iload_n 2) (sr := 0) (j := 2) (by decide +kernel) rfl rfl rfl) ?_
  refine fw_iffd (cc := .lt) (pc := 4) (off := 44) (by decide +kernel) (by decide) ⟨by decide, by decide⟩ (by decide) ?_
  refine gm_sz (gm_p_load (pc := 7) (i := .aload_n 0) (sr := 2) (j := 0) (by decide +kernel) rfl rfl rfl) ?_
  refine gm_sz (fw_gi (pc := 8) (ix := 13) (ci := 0) (j := 1) (x := t + (4 * m + 1)) (by decide +kernel) hk1 (by decide +kernel) (by decide +kernel) fe_1) ?_
  refine gm_sz (gm_p_load (pc := 11) (i := .aload_n 0) (sr := 2) (j := 0) (by decide +kernel) rfl rfl rfl) ?_
  refine gm_sz (fw_gr (pc := 12) (ix := 9) (ci := 0) (j := 0) (r := 2) (by decide +kernel) hk1 (by decide +kernel) (by decide +kernel) hr) ?_
  refine gm_sz (fw_al (pc := 15) (k := 2) (len := 400) (by decide +kernel) (e2 : (1 ≤ 2 ∧ 2 ≤ n) ∧ K 2 = (1, 400)).1 (e2 : (1 ≤ 2 ∧ 2 ≤ n) ∧ K 2 = (1, 400)).2 (by decide)) ?_
  refine fw_icf (cc := .ge) (pc := 16) (off := 26) (by decide +kernel) (by decide) ⟨by omega, by omega⟩ ⟨by decide, by decide⟩ (show ¬ 400 ≤ (t + (4 * m + 1)) by omega) ?_
  refine gm_sz (gm_p_load (pc := 19) (i := .aload_n 0) (sr := 2) (j := 0) (by decide +kernel) rfl rfl rfl) ?_
  refine gm_sz (fw_gr (pc := 20) (ix := 9) (ci := 0) (j := 0) (r := 2) (by decide +kernel) hk1 (by decide +kernel) (by decide +kernel) hr) ?_
  refine gm_sz (gm_p_load (pc := 23) (i := .aload_n 0) (sr := 2) (j := 0) (by decide +kernel) rfl rfl rfl) ?_
  refine gm_sz (fw_gi (pc := 24) (ix := 13) (ci := 0) (j := 1) (x := t + (4 * m + 1)) (by decide +kernel) hk1 (by decide +kernel) (by decide +kernel) fe_1) ?_
  refine gm_sz (gm_p_load (pc := 27) (i := .iload_n 1) (sr := 0) (j := 1) (by decide +kernel) rfl rfl rfl) ?_
  refine gm_sz (gm_p_load (pc := 28) (i := .iload_n 2) (sr := 0) (j := 2) (by decide +kernel) rfl rfl rfl) ?_
  refine gm_sz (gm_p_bin (pc := 29) (i := .iushr) (f := gm_ushr) (by decide +kernel) rfl) ?_
  refine gm_sz (gm_p_un (pc := 30) (i := .i2b) (f := fun x => gm_wb x) (by decide +kernel) rfl) ?_
  refine gm_sz (fw_bs (pc := 31) (k := 2) (len := 400) (e0 := t + (4 * m + 1)) (x := gm_wb (gm_ushr (a m) 16)) (M' := fe M (t + (4 * m + 1)) (fdc a t (4 * m + 2) f)) (by decide +kernel) (e2 : (1 ≤ 2 ∧ 2 ≤ n) ∧ K 2 = (1, 400)).1 (e2 : (1 ≤ 2 ∧ 2 ≤ n) ∧ K 2 = (1, 400)).2 (by decide) ⟨by omega, by omega⟩ (fe_put (k := 4 * m + 1) rfl (by omega) (by omega) (wb_wb.trans (fb1 (by omega) (by omega))))) ?_
  refine gm_sz (gm_p_load (pc := 32) (i := .aload_n 0) (sr := 2) (j := 0) (by decide +kernel) rfl rfl rfl) ?_
  refine gm_sz (gm_p_dup (pc := 33) (by decide +kernel) fw_sr) ?_
  refine gm_sz (fw_gi (pc := 34) (ix := 13) (ci := 0) (j := 1) (x := t + (4 * m + 1)) (by decide +kernel) hk1 (by decide +kernel) (by decide +kernel) fe_1) ?_
  refine gm_sz (gm_p_const (pc := 37) (i := .iconst 1) (v := gm_vi 1) (by decide +kernel) (by decide +kernel)) ?_
  refine gm_sz (gm_p_bin (pc := 38) (i := .iadd) (f := fun x y => x + y) (by decide +kernel) rfl) ?_
  refine gm_sz (fw_pi (pc := 39) (ix := 13) (ci := 0) (j := 1) (M' := fe M (t + (4 * m + 2)) (fdc a t (4 * m + 2) f)) (by decide +kernel) hk1 (by decide +kernel) (by decide +kernel) (by decide +kernel) (fe_t.trans (congrArg (fun z => fe M z _) (show t + (4 * m + 1) + 1 = t + (4 * m + 2) by omega)))) ?_
  refine gm_sz (gm_p_iinc (pc := 42) (j := 2) (z := (-8)) (by decide +kernel) rfl) ?_
  refine gm_sz (gm_p_goto (pc := 45) (off := (-42)) (by decide +kernel) (by decide)) ?_
  refine gm_sz (gm_p_load (pc := 3) (i := .iload_n 2) (sr := 0) (j := 2) (by decide +kernel) rfl rfl rfl) ?_
  refine fw_iffd (cc := .lt) (pc := 4) (off := 44) (by decide +kernel) (by decide) ⟨by decide, by decide⟩ (by decide) ?_
  refine gm_sz (gm_p_load (pc := 7) (i := .aload_n 0) (sr := 2) (j := 0) (by decide +kernel) rfl rfl rfl) ?_
  refine gm_sz (fw_gi (pc := 8) (ix := 13) (ci := 0) (j := 1) (x := t + (4 * m + 2)) (by decide +kernel) hk1 (by decide +kernel) (by decide +kernel) fe_1) ?_
  refine gm_sz (gm_p_load (pc := 11) (i := .aload_n 0) (sr := 2) (j := 0) (by decide +kernel) rfl rfl rfl) ?_
  refine gm_sz (fw_gr (pc := 12) (ix := 9) (ci := 0) (j := 0) (r := 2) (by decide +kernel) hk1 (by decide +kernel) (by decide +kernel) hr) ?_
  refine gm_sz (fw_al (pc := 15) (k := 2) (len := 400) (by decide +kernel) (e2 : (1 ≤ 2 ∧ 2 ≤ n) ∧ K 2 = (1, 400)).1 (e2 : (1 ≤ 2 ∧ 2 ≤ n) ∧ K 2 = (1, 400)).2 (by decide)) ?_
  refine fw_icf (cc := .ge) (pc := 16) (off := 26) (by decide +kernel) (by decide) ⟨by omega, by omega⟩ ⟨by decide, by decide⟩ (show ¬ 400 ≤ (t + (4 * m + 2)) by omega) ?_
  refine gm_sz (gm_p_load (pc := 19) (i := .aload_n 0) (sr := 2) (j := 0) (by decide +kernel) rfl rfl rfl) ?_
  refine gm_sz (fw_gr (pc := 20) (ix := 9) (ci := 0) (j := 0) (r := 2) (by decide +kernel) hk1 (by decide +kernel) (by decide +kernel) hr) ?_
  refine gm_sz (gm_p_load (pc := 23) (i := .aload_n 0) (sr := 2) (j := 0) (by decide +kernel) rfl rfl rfl) ?_
  refine gm_sz (fw_gi (pc := 24) (ix := 13) (ci := 0) (j := 1) (x := t + (4 * m + 2)) (by decide +kernel) hk1 (by decide +kernel) (by decide +kernel) fe_1) ?_
  refine gm_sz (gm_p_load (pc := 27) (i := .iload_n 1) (sr := 0) (j := 1) (by decide +kernel) rfl rfl rfl) ?_
  refine gm_sz (gm_p_load (pc := 28) (i := .iload_n 2) (sr := 0) (j := 2) (by decide +kernel) rfl rfl rfl) ?_
  refine gm_sz (gm_p_bin (pc := 29) (i := .iushr) (f := gm_ushr) (by decide +kernel) rfl) ?_
  refine gm_sz (gm_p_un (pc := 30) (i := .i2b) (f := fun x => gm_wb x) (by decide +kernel) rfl) ?_
  refine gm_sz (fw_bs (pc := 31) (k := 2) (len := 400) (e0 := t + (4 * m + 2)) (x := gm_wb (gm_ushr (a m) 8)) (M' := fe M (t + (4 * m + 2)) (fdc a t (4 * m + 3) f)) (by decide +kernel) (e2 : (1 ≤ 2 ∧ 2 ≤ n) ∧ K 2 = (1, 400)).1 (e2 : (1 ≤ 2 ∧ 2 ≤ n) ∧ K 2 = (1, 400)).2 (by decide) ⟨by omega, by omega⟩ (fe_put (k := 4 * m + 2) rfl (by omega) (by omega) (wb_wb.trans (fb2 (by omega) (by omega))))) ?_
  refine gm_sz (gm_p_load (pc := 32) (i := .aload_n 0) (sr := 2) (j := 0) (by decide +kernel) rfl rfl rfl) ?_
  refine gm_sz (gm_p_dup (pc := 33) (by decide +kernel) fw_sr) ?_
  refine gm_sz (fw_gi (pc := 34) (ix := 13) (ci := 0) (j := 1) (x := t + (4 * m + 2)) (by decide +kernel) hk1 (by decide +kernel) (by decide +kernel) fe_1) ?_
  refine gm_sz (gm_p_const (pc := 37) (i := .iconst 1) (v := gm_vi 1) (by decide +kernel) (by decide +kernel)) ?_
  refine gm_sz (gm_p_bin (pc := 38) (i := .iadd) (f := fun x y => x + y) (by decide +kernel) rfl) ?_
  refine gm_sz (fw_pi (pc := 39) (ix := 13) (ci := 0) (j := 1) (M' := fe M (t + (4 * m + 3)) (fdc a t (4 * m + 3) f)) (by decide +kernel) hk1 (by decide +kernel) (by decide +kernel) (by decide +kernel) (fe_t.trans (congrArg (fun z => fe M z _) (show t + (4 * m + 2) + 1 = t + (4 * m + 3) by omega)))) ?_
  refine gm_sz (gm_p_iinc (pc := 42) (j := 2) (z := (-8)) (by decide +kernel) rfl) ?_
  refine gm_sz (gm_p_goto (pc := 45) (off := (-42)) (by decide +kernel) (by decide)) ?_
  refine gm_sz (gm_p_load (pc := 3) (i := .iload_n 2) (sr := 0) (j := 2) (by decide +kernel) rfl rfl rfl) ?_
  refine fw_iffd (cc := .lt) (pc := 4) (off := 44) (by decide +kernel) (by decide) ⟨by decide, by decide⟩ (by decide) ?_
  refine gm_sz (gm_p_load (pc := 7) (i := .aload_n 0) (sr := 2) (j := 0) (by decide +kernel) rfl rfl rfl) ?_
  refine gm_sz (fw_gi (pc := 8) (ix := 13) (ci := 0) (j := 1) (x := t + (4 * m + 3)) (by decide +kernel) hk1 (by decide +kernel) (by decide +kernel) fe_1) ?_
  refine gm_sz (gm_p_load (pc := 11) (i := .aload_n 0) (sr := 2) (j := 0) (by decide +kernel) rfl rfl rfl) ?_
  refine gm_sz (fw_gr (pc := 12) (ix := 9) (ci := 0) (j := 0) (r := 2) (by decide +kernel) hk1 (by decide +kernel) (by decide +kernel) hr) ?_
  refine gm_sz (fw_al (pc := 15) (k := 2) (len := 400) (by decide +kernel) (e2 : (1 ≤ 2 ∧ 2 ≤ n) ∧ K 2 = (1, 400)).1 (e2 : (1 ≤ 2 ∧ 2 ≤ n) ∧ K 2 = (1, 400)).2 (by decide)) ?_
  refine fw_icf (cc := .ge) (pc := 16) (off := 26) (by decide +kernel) (by decide) ⟨by omega, by omega⟩ ⟨by decide, by decide⟩ (show ¬ 400 ≤ (t + (4 * m + 3)) by omega) ?_
  refine gm_sz (gm_p_load (pc := 19) (i := .aload_n 0) (sr := 2) (j := 0) (by decide +kernel) rfl rfl rfl) ?_
  refine gm_sz (fw_gr (pc := 20) (ix := 9) (ci := 0) (j := 0) (r := 2) (by decide +kernel) hk1 (by decide +kernel) (by decide +kernel) hr) ?_
  refine gm_sz (gm_p_load (pc := 23) (i := .aload_n 0) (sr := 2) (j := 0) (by decide +kernel) rfl rfl rfl) ?_
  refine gm_sz (fw_gi (pc := 24) (ix := 13) (ci := 0) (j := 1) (x := t + (4 * m + 3)) (by decide +kernel) hk1 (by decide +kernel) (by decide +kernel) fe_1) ?_
  refine gm_sz (gm_p_load (pc := 27) (i := .iload_n 1) (sr := 0) (j := 1) (by decide +kernel) rfl rfl rfl) ?_
  refine gm_sz (gm_p_load (pc := 28) (i := .iload_n 2) (sr := 0) (j := 2) (by decide +kernel) rfl rfl rfl) ?_
  refine gm_sz (gm_p_bin (pc := 29) (i := .iushr) (f := gm_ushr) (by decide +kernel) rfl) ?_
  refine gm_sz (gm_p_un (pc := 30) (i := .i2b) (f := fun x => gm_wb x) (by decide +kernel) rfl) ?_
  refine gm_sz (fw_bs (pc := 31) (k := 2) (len := 400) (e0 := t + (4 * m + 3)) (x := gm_wb (gm_ushr (a m) 0)) (M' := fe M (t + (4 * m + 3)) (fdc a t (4 * m + 4) f)) (by decide +kernel) (e2 : (1 ≤ 2 ∧ 2 ≤ n) ∧ K 2 = (1, 400)).1 (e2 : (1 ≤ 2 ∧ 2 ≤ n) ∧ K 2 = (1, 400)).2 (by decide) ⟨by omega, by omega⟩ (fe_put (k := 4 * m + 3) rfl (by omega) (by omega) (wb_wb.trans (fb3 (by omega) (by omega))))) ?_
  refine gm_sz (gm_p_load (pc := 32) (i := .aload_n 0) (sr := 2) (j := 0) (by decide +kernel) rfl rfl rfl) ?_
  refine gm_sz (gm_p_dup (pc := 33) (by decide +kernel) fw_sr) ?_
  refine gm_sz (fw_gi (pc := 34) (ix := 13) (ci := 0) (j := 1) (x := t + (4 * m + 3)) (by decide +kernel) hk1 (by decide +kernel) (by decide +kernel) fe_1) ?_
  refine gm_sz (gm_p_const (pc := 37) (i := .iconst 1) (v := gm_vi 1) (by decide +kernel) (by decide +kernel)) ?_
  refine gm_sz (gm_p_bin (pc := 38) (i := .iadd) (f := fun x y => x + y) (by decide +kernel) rfl) ?_
  refine gm_sz (fw_pi (pc := 39) (ix := 13) (ci := 0) (j := 1) (M' := fe M (t + (4 * m + 4)) (fdc a t (4 * m + 4) f)) (by decide +kernel) hk1 (by decide +kernel) (by decide +kernel) (by decide +kernel) (fe_t.trans (congrArg (fun z => fe M z _) (show t + (4 * m + 3) + 1 = t + (4 * m + 4) by omega)))) ?_
  refine gm_sz (gm_p_iinc (pc := 42) (j := 2) (z := (-8)) (by decide +kernel) rfl) ?_
  refine gm_sz (gm_p_goto (pc := 45) (off := (-42)) (by decide +kernel) (by decide)) ?_
  refine gm_sz (gm_p_load (pc := 3) (i := .iload_n 2) (sr := 0) (j := 2) (by decide +kernel) rfl rfl rfl) ?_
  refine fw_iftd (cc := .lt) (pc := 4) (off := 44) (by decide +kernel) (by decide) ⟨by decide, by decide⟩ (by decide) ?_
  exact gm_r_void (pc := 48) (by decide +kernel) (by decide +kernel) hq
theorem fd_c19 (hd : 1 ≤ d) (hk1 : (1 ≤ 1 ∧ 1 ≤ n) ∧ (K 1).1 = 0 + 4) (e2 : (1 ≤ 2 ∧ 2 ≤ n) ∧ K 2 = (1, 400)) (hr : R 1 ((0 : Nat) : Int) = 2) (ht : 0 ≤ t ∧ t ≤ 400) (h0 : 381 ≤ t → Q (.inl (some (gm_vi (-1)))) n K R (fe M t f)) (h1 : t ≤ 380 → Q (.inl (some (gm_vi (t + 20)))) n K R (fe M (t + 20) (fdc a t 20 f))) : gm_Wp X LX d bc bs 19 0 (gm_ent 19 [gm_vr 1, gm_vi (a 0), gm_vi (a 1), gm_vi (a 2), gm_vi (a 3), gm_vi (a 4)]) [] n K R (fe M t f) Q := by
  refine gm_sz (gm_p_load (pc := 0) (i := .aload_n 0) (sr := 2) (j := 0) (by decide +kernel) rfl rfl rfl) ?_
  refine gm_sz (fw_gi (pc := 1) (ix := 13) (ci := 0) (j := 1) (x := t) (by decide +kernel) hk1 (by decide +kernel) (by decide +kernel) fe_1) ?_
  refine gm_sz (gm_p_const (pc := 4) (i := .bipush 20) (v := gm_vi 20) (by decide +kernel) (by decide +kernel)) ?_
  refine gm_sz (gm_p_bin (pc := 6) (i := .iadd) (f := fun x y => x + y) (by decide +kernel) rfl) ?_
  refine gm_sz (gm_p_const (pc := 7) (i := .sipush 400) (v := gm_vi 400) (by decide +kernel) (by decide +kernel)) ?_
  refine fw_ic (cc := .le) (pc := 10) (off := 5) (by decide +kernel) (by decide) ⟨by omega, by omega⟩ ⟨by decide, by decide⟩ (fun j1 => ?_) (fun j1 => ?_)
  · have j1 : (t + 20) ≤ 400 := j1
    refine gm_sz (gm_p_load (pc := 15) (i := .aload_n 0) (sr := 2) (j := 0) (by decide +kernel) rfl rfl rfl) ?_
    refine gm_sz (gm_p_load (pc := 16) (i := .iload_n 1) (sr := 0) (j := 1) (by decide +kernel) rfl rfl rfl) ?_
    rw [show fe M t f = fe M (t + (4 * 0 + 0)) (fdc a t (4 * 0 + 0) f) by rw [show (4 * 0 + 0 : Int) = 0 by decide, fdc_0, Int.add_zero]]
    refine gm_c_virt (k := 1) (ci := 0) (mj := 20) (ix := 110) (pc := 17) (as := [gm_vi (a 0)]) (st := []) (d' := d - 1) (bc' := 0) (bs' := 0) (by decide +kernel) (by decide +kernel) (by decide +kernel) (by decide +kernel) hk1.1 hk1.2 (by decide) (by decide +kernel) (show 1 = gm_na 20 by decide +kernel) (fw_c1 fw_si) (show 2 ≤ gm_ml 20 by decide +kernel) (Nat.le_of_ble_eq_true rfl) (by omega) (Nat.zero_le _) (Nat.zero_le _) ?_
    refine fd_c20 (t := t) (m := 0) (a := a) (f := f) hk1 e2 hr ⟨by omega, by omega⟩ (by decide) ?_
    show gm_Wp X LX d _ _ 19 20 _ [] n K R _ Q
    refine gm_sz (gm_p_load (pc := 20) (i := .aload_n 0) (sr := 2) (j := 0) (by decide +kernel) rfl rfl rfl) ?_
    refine gm_sz (gm_p_load (pc := 21) (i := .iload_n 2) (sr := 0) (j := 2) (by decide +kernel) rfl rfl rfl) ?_
    refine gm_c_virt (k := 1) (ci := 0) (mj := 20) (ix := 110) (pc := 22) (as := [gm_vi (a 1)]) (st := []) (d' := d - 1) (bc' := 0) (bs' := 0) (by decide +kernel) (by decide +kernel) (by decide +kernel) (by decide +kernel) hk1.1 hk1.2 (by decide) (by decide +kernel) (show 1 = gm_na 20 by decide +kernel) (fw_c1 fw_si) (show 2 ≤ gm_ml 20 by decide +kernel) (Nat.le_of_ble_eq_true rfl) (by omega) (Nat.zero_le _) (Nat.zero_le _) ?_
    refine fd_c20 (t := t) (m := 1) (a := a) (f := f) hk1 e2 hr ⟨by omega, by omega⟩ (by decide) ?_
    show gm_Wp X LX d _ _ 19 25 _ [] n K R _ Q
    refine gm_sz (gm_p_load (pc := 25) (i := .aload_n 0) (sr := 2) (j := 0) (by decide +kernel) rfl rfl rfl) ?_
    refine gm_sz (gm_p_load (pc := 26) (i := .iload_n 3) (sr := 0) (j := 3) (by decide +kernel) rfl rfl rfl) ?_
    refine gm_c_virt (k := 1) (ci := 0) (mj := 20) (ix := 110) (pc := 27) (as := [gm_vi (a 2)]) (st := []) (d' := d - 1) (bc' := 0) (bs' := 0) (by decide +kernel) (by decide +kernel) (by decide +kernel) (by decide +kernel) hk1.1 hk1.2 (by decide) (by decide +kernel) (show 1 = gm_na 20 by decide +kernel) (fw_c1 fw_si) (show 2 ≤ gm_ml 20 by decide +kernel) (Nat.le_of_ble_eq_true rfl) (by omega) (Nat.zero_le _) (Nat.zero_le _) ?_
    refine fd_c20 (t := t) (m := 2) (a := a) (f := f) hk1 e2 hr ⟨by omega, by omega⟩ (by decide) ?_
    show gm_Wp X LX d _ _ 19 30 _ [] n K R _ Q
    refine gm_sz (gm_p_load (pc := 30) (i := .aload_n 0) (sr := 2) (j := 0) (by decide +kernel) rfl rfl rfl) ?_
    refine gm_sz (gm_p_load (pc := 31) (i := .iload 4) (sr := 0) (j := 4) (by decide +kernel) rfl rfl rfl) ?_
    refine gm_c_virt (k := 1) (ci := 0) (mj := 20) (ix := 110) (pc := 33) (as := [gm_vi (a 3)]) (st := []) (d' := d - 1) (bc' := 0) (bs' := 0) (by decide +kernel) (by decide +kernel) (by decide +kernel) (by decide +kernel) hk1.1 hk1.2 (by decide) (by decide +kernel) (show 1 = gm_na 20 by decide +kernel) (fw_c1 fw_si) (show 2 ≤ gm_ml 20 by decide +kernel) (Nat.le_of_ble_eq_true rfl) (by omega) (Nat.zero_le _) (Nat.zero_le _) ?_
    refine fd_c20 (t := t) (m := 3) (a := a) (f := f) hk1 e2 hr ⟨by omega, by omega⟩ (by decide) ?_
    show gm_Wp X LX d _ _ 19 36 _ [] n K R _ Q
    refine gm_sz (gm_p_load (pc := 36) (i := .aload_n 0) (sr := 2) (j := 0) (by decide +kernel) rfl rfl rfl) ?_
    refine gm_sz (gm_p_load (pc := 37) (i := .iload 5) (sr := 0) (j := 5) (by decide +kernel) rfl rfl rfl) ?_
    refine gm_c_virt (k := 1) (ci := 0) (mj := 20) (ix := 110) (pc := 39) (as := [gm_vi (a 4)]) (st := []) (d' := d - 1) (bc' := 0) (bs' := 0) (by decide +kernel) (by decide +kernel) (by decide +kernel) (by decide +kernel) hk1.1 hk1.2 (by decide) (by decide +kernel) (show 1 = gm_na 20 by decide +kernel) (fw_c1 fw_si) (show 2 ≤ gm_ml 20 by decide +kernel) (Nat.le_of_ble_eq_true rfl) (by omega) (Nat.zero_le _) (Nat.zero_le _) ?_
    refine fd_c20 (t := t) (m := 4) (a := a) (f := f) hk1 e2 hr ⟨by omega, by omega⟩ (by decide) ?_
    show gm_Wp X LX d _ _ 19 42 _ [] n K R _ Q
    refine gm_sz (gm_p_load (pc := 42) (i := .aload_n 0) (sr := 2) (j := 0) (by decide +kernel) rfl rfl rfl) ?_
    refine gm_sz (fw_gi (pc := 43) (ix := 13) (ci := 0) (j := 1) (x := t + (4 * 4 + 4)) (by decide +kernel) hk1 (by decide +kernel) (by decide +kernel) fe_1) ?_
    exact gm_r_int (pc := 46) (by decide +kernel) (Or.inl (by decide +kernel)) (h1 (by omega))
  · have j1 : ¬ (t + 20) ≤ 400 := j1
    refine gm_sz (gm_p_const (pc := 13) (i := .iconst (-1)) (v := gm_vi (-1)) (by decide +kernel) (by decide +kernel)) ?_
    exact gm_r_int (pc := 14) (by decide +kernel) (Or.inl (by decide +kernel)) (h0 (by omega))
/-- the reference's TAPE -/
def ff (M : gm_M) (t : Int) (F V : Int → Int) : gm_M := fun b j => if b = 226 then (if j = 0 then 0 else if j = 8 then t else M b j) else if b = 231 then F j else if b = 232 then V j else M b j
variable {V : Int → Int}
theorem ff_8 : ff M T F V 226 ((8 : Nat) : Int) = T := by
  show ff M T F V 226 8 = T
  unfold ff
  rw [if_pos rfl, if_neg (by decide), if_pos rfl]
theorem ff_t : gm_uM (ff M T F V) 226 ((8 : Nat) : Int) x = ff M x F V := by
  show gm_uM (ff M T F V) 226 8 x = ff M x F V
  funext b j
  by_cases h1 : b = 226 <;> by_cases h2 : j = 8 <;> simp [gm_uM, ff, h1, h2]
theorem ff_p {j : Int} : gm_uM (ff M T F V) 231 j x = ff M T (fun i => if i = j then x else F i) V := by
  funext b i
  by_cases h1 : b = 231 <;> by_cases h2 : i = j <;> simp [gm_uM, ff, h1, h2]
theorem ff_v {j : Int} : gm_uM (ff M T F V) 232 j x = ff M T F (fun i => if i = j then x else V i) := by
  funext b i
  by_cases h1 : b = 232 <;> by_cases h2 : i = j <;> simp [gm_uM, ff, h1, h2]
theorem ff_0 : gm_uM M 226 ((0 : Nat) : Int) 0 = ff M (M 226 8) (M 231) (M 232) := by
  show gm_uM M 226 0 0 = _
  funext b j
  unfold gm_uM ff
  by_cases h1 : b = 226
  · subst h1
    by_cases h2 : j = 0
    · subst h2; simp
    · by_cases h3 : j = 8
      · subst h3; simp
      · simp [h2, h3]
  · by_cases h2 : b = 231
    · subst h2; simp
    · by_cases h3 : b = 232
      · subst h3; simp
      · simp [h1, h2, h3]
theorem ff_put {e k v : Int} (he : e = t + k) (hk : 0 ≤ k) (hv : v = fb (a (k / 4)) (k % 4)) : gm_uM (ff M T (fdc a t k f) V) 231 e v = ff M T (fdc a t (k + 1) f) V := by
  rw [ff_p, he, fdc_s hk hv]
theorem ff_by {k : Int} (h : 0 ≤ k) : gm_wb (gm_shr x (24 - 8 * (k % 4))) = fb x (k % 4) := by
  have h4 : k % 4 = 0 ∨ k % 4 = 1 ∨ k % 4 = 2 ∨ k % 4 = 3 := by omega
  rcases h4 with h4 | h4 | h4 | h4 <;> rw [h4]
  · exact fb0s
  · exact fb1s
  · exact fb2s
  · exact fb3s
theorem fd_l239 (hk : (1 ≤ 226 ∧ 226 ≤ n) ∧ (K 226).1 = 11 + 4) (e1 : (1 ≤ 231 ∧ 231 ≤ n) ∧ K 231 = (1, 400)) (e5 : (1 ≤ 232 ∧ 232 ≤ n) ∧ K 232 = (0, 5)) (hr1 : R 226 ((7 : Nat) : Int) = 231) (hr5 : R 226 ((14 : Nat) : Int) = 232) (ht : 0 ≤ t ∧ t ≤ 380) (hV : ∀ j : Int, 0 ≤ j ∧ j ≤ 4 → V j = a j) (hq : Q (.inl (some (gm_vi (t + 20)))) n K R (ff M (t + 20) (fdc a t 20 f) V)) : ∀ (u : Nat) (k : Int), k + u = 20 → 0 ≤ k → gm_Wp X LX d bc bs 239 60 [some (gm_vr 226), some (gm_vi (a 0)), some (gm_vi (a 1)), some (gm_vi (a 2)), some (gm_vi (a 3)), some (gm_vi (a 4)), some (gm_vi k)] [] n K R (ff M t (fdc a t k f) V) Q := by
  intro u
  induction u with
  | zero =>
    intro k hku hk0
    have hk20 : k = 20 := by omega
    subst hk20
    refine gm_sz (gm_p_load (pc := 60) (i := .iload 6) (sr := 0) (j := 6) (by decide +kernel) rfl rfl rfl) ?_
    refine gm_sz (gm_p_const (pc := 62) (i := .bipush 20) (v := gm_vi 20) (by decide +kernel) (by decide +kernel)) ?_
    refine fw_ictd (cc := .ge) (pc := 64) (off := 42) (by decide +kernel) (by decide) ⟨by decide, by decide⟩ ⟨by decide, by decide⟩ (by decide) ?_
    refine gm_sz (gm_p_load (pc := 106) (i := .aload_n 0) (sr := 2) (j := 0) (by decide +kernel) rfl rfl rfl) ?_
    refine gm_sz (gm_p_dup (pc := 107) (by decide +kernel) fw_sr) ?_
    refine gm_sz (fw_gi (pc := 108) (ix := 103) (ci := 11) (j := 8) (x := t) (by decide +kernel) hk (by decide +kernel) (by decide +kernel) ff_8) ?_
    refine gm_sz (gm_p_const (pc := 111) (i := .bipush 20) (v := gm_vi 20) (by decide +kernel) (by decide +kernel)) ?_
    refine gm_sz (gm_p_bin (pc := 113) (i := .iadd) (f := fun x y => x + y) (by decide +kernel) rfl) ?_
    refine gm_sz (fw_pi (pc := 114) (ix := 103) (ci := 11) (j := 8) (M' := ff M (t + 20) (fdc a t 20 f) V) (by decide +kernel) hk (by decide +kernel) (by decide +kernel) (by decide +kernel) ff_t) ?_
    refine gm_sz (gm_p_load (pc := 117) (i := .aload_n 0) (sr := 2) (j := 0) (by decide +kernel) rfl rfl rfl) ?_
    refine gm_sz (fw_gi (pc := 118) (ix := 103) (ci := 11) (j := 8) (x := t + 20) (by decide +kernel) hk (by decide +kernel) (by decide +kernel) ff_8) ?_
    exact gm_r_int (pc := 121) (by decide +kernel) (Or.inl (by decide +kernel)) hq
  | succ u ih =>
    intro k hku hk0
    refine gm_sz (gm_p_load (pc := 60) (i := .iload 6) (sr := 0) (j := 6) (by decide +kernel) rfl rfl rfl) ?_
    refine gm_sz (gm_p_const (pc := 62) (i := .bipush 20) (v := gm_vi 20) (by decide +kernel) (by decide +kernel)) ?_
    refine fw_icf (cc := .ge) (pc := 64) (off := 42) (by decide +kernel) (by decide) ⟨by omega, by omega⟩ ⟨by decide, by decide⟩ (show ¬ 20 ≤ k by omega) ?_
    refine gm_sz (gm_p_load (pc := 67) (i := .aload_n 0) (sr := 2) (j := 0) (by decide +kernel) rfl rfl rfl) ?_
    refine gm_sz (fw_gr (pc := 68) (ix := 26) (ci := 11) (j := 7) (r := 231) (by decide +kernel) hk (by decide +kernel) (by decide +kernel) hr1) ?_
    refine gm_sz (gm_p_load (pc := 71) (i := .aload_n 0) (sr := 2) (j := 0) (by decide +kernel) rfl rfl rfl) ?_
    refine gm_sz (fw_gi (pc := 72) (ix := 103) (ci := 11) (j := 8) (x := t) (by decide +kernel) hk (by decide +kernel) (by decide +kernel) ff_8) ?_
    refine gm_sz (gm_p_load (pc := 75) (i := .iload 6) (sr := 0) (j := 6) (by decide +kernel) rfl rfl rfl) ?_
    refine gm_sz (gm_p_bin (pc := 77) (i := .iadd) (f := fun x y => x + y) (by decide +kernel) rfl) ?_
    refine gm_sz (gm_p_load (pc := 78) (i := .aload_n 0) (sr := 2) (j := 0) (by decide +kernel) rfl rfl rfl) ?_
    refine gm_sz (fw_gr (pc := 79) (ix := 33) (ci := 11) (j := 14) (r := 232) (by decide +kernel) hk (by decide +kernel) (by decide +kernel) hr5) ?_
    refine gm_sz (gm_p_load (pc := 82) (i := .iload 6) (sr := 0) (j := 6) (by decide +kernel) rfl rfl rfl) ?_
    refine gm_sz (gm_p_const (pc := 84) (i := .iconst 4) (v := gm_vi 4) (by decide +kernel) (by decide +kernel)) ?_
    refine gm_sz (gm_p_div (pc := 85) (by decide +kernel) (by decide)) ?_
    rw [fw_div (a := k) (b := 4) (by omega) (by omega) (by decide)]
    refine gm_sz (fw_ia (pc := 86) (k := 232) (len := 5) (e0 := k / 4) (x := a (k / 4)) (by decide +kernel) (e5 : (1 ≤ 232 ∧ 232 ≤ n) ∧ K 232 = (0, 5)).1 (e5 : (1 ≤ 232 ∧ 232 ≤ n) ∧ K 232 = (0, 5)).2 (by decide) ⟨by omega, by omega⟩ (hV _ ⟨by omega, by omega⟩)) ?_
    refine gm_sz (gm_p_const (pc := 87) (i := .bipush 24) (v := gm_vi 24) (by decide +kernel) (by decide +kernel)) ?_
    refine gm_sz (gm_p_const (pc := 89) (i := .bipush 8) (v := gm_vi 8) (by decide +kernel) (by decide +kernel)) ?_
    refine gm_sz (gm_p_load (pc := 91) (i := .iload 6) (sr := 0) (j := 6) (by decide +kernel) rfl rfl rfl) ?_
    refine gm_sz (gm_p_const (pc := 93) (i := .iconst 4) (v := gm_vi 4) (by decide +kernel) (by decide +kernel)) ?_
    refine gm_sz (gm_p_rem (pc := 94) (by decide +kernel) (by decide)) ?_
    rw [fw_rem (a := k) (b := 4) (by omega) (by omega) (by decide)]
    refine gm_sz (gm_p_bin (pc := 95) (i := .imul) (f := fun x y => x * y) (by decide +kernel) rfl) ?_
    refine gm_sz (gm_p_bin (pc := 96) (i := .isub) (f := fun x y => x - y) (by decide +kernel) rfl) ?_
    refine gm_sz (gm_p_bin (pc := 97) (i := .ishr) (f := gm_shr) (by decide +kernel) rfl) ?_
    refine gm_sz (gm_p_un (pc := 98) (i := .i2b) (f := fun x => gm_wb x) (by decide +kernel) rfl) ?_
    refine gm_sz (fw_bs (pc := 99) (k := 231) (len := 400) (e0 := t + k) (x := gm_wb (gm_shr (a (k / 4)) (24 - (8 * (k % 4))))) (M' := ff M t (fdc a t (k + 1) f) V) (by decide +kernel) (e1 : (1 ≤ 231 ∧ 231 ≤ n) ∧ K 231 = (1, 400)).1 (e1 : (1 ≤ 231 ∧ 231 ≤ n) ∧ K 231 = (1, 400)).2 (by decide) ⟨by omega, by omega⟩ (ff_put (k := k) (a := a) (t := t) rfl (by omega) (wb_wb.trans (ff_by (by omega))))) ?_
    refine gm_sz (gm_p_iinc (pc := 100) (j := 6) (z := 1) (by decide +kernel) rfl) ?_
    refine gm_sz (gm_p_goto (pc := 103) (off := (-43)) (by decide +kernel) (by decide)) ?_
    exact ih (k + 1) (by omega) (by omega)
theorem fd_c239 (hk : (1 ≤ 226 ∧ 226 ≤ n) ∧ (K 226).1 = 11 + 4) (e1 : (1 ≤ 231 ∧ 231 ≤ n) ∧ K 231 = (1, 400)) (e5 : (1 ≤ 232 ∧ 232 ≤ n) ∧ K 232 = (0, 5)) (hr1 : R 226 ((7 : Nat) : Int) = 231) (hr5 : R 226 ((14 : Nat) : Int) = 232) (ht : 0 ≤ M 226 8 ∧ M 226 8 ≤ 400) (h0 : 381 ≤ M 226 8 → Q (.inl (some (gm_vi (-1)))) n K R (ff M (M 226 8) (M 231) (M 232))) (h1 : ∀ V, M 226 8 ≤ 380 → Q (.inl (some (gm_vi (M 226 8 + 20)))) n K R (ff M (M 226 8 + 20) (fdc a (M 226 8) 20 (M 231)) V)) : gm_Wp X LX d bc bs 239 0 (gm_ent 239 [gm_vr 226, gm_vi (a 0), gm_vi (a 1), gm_vi (a 2), gm_vi (a 3), gm_vi (a 4)]) [] n K R M Q := by
  refine gm_sz (gm_p_load (pc := 0) (i := .aload_n 0) (sr := 2) (j := 0) (by decide +kernel) rfl rfl rfl) ?_
  refine gm_sz (gm_p_const (pc := 1) (i := .iconst 0) (v := gm_vi 0) (by decide +kernel) (by decide +kernel)) ?_
  refine gm_sz (fw_pi (pc := 2) (ix := 3) (ci := 11) (j := 0) (M' := ff M (M 226 8) (M 231) (M 232)) (by decide +kernel) hk (by decide +kernel) (by decide +kernel) (by decide +kernel) ff_0) ?_
  refine gm_sz (gm_p_load (pc := 5) (i := .aload_n 0) (sr := 2) (j := 0) (by decide +kernel) rfl rfl rfl) ?_
  refine gm_sz (fw_gi (pc := 6) (ix := 103) (ci := 11) (j := 8) (x := M 226 8) (by decide +kernel) hk (by decide +kernel) (by decide +kernel) ff_8) ?_
  refine gm_sz (gm_p_const (pc := 9) (i := .bipush 20) (v := gm_vi 20) (by decide +kernel) (by decide +kernel)) ?_
  refine gm_sz (gm_p_bin (pc := 11) (i := .iadd) (f := fun x y => x + y) (by decide +kernel) rfl) ?_
  refine gm_sz (gm_p_const (pc := 12) (i := .sipush 400) (v := gm_vi 400) (by decide +kernel) (by decide +kernel)) ?_
  refine fw_ic (cc := .le) (pc := 15) (off := 5) (by decide +kernel) (by decide) ⟨by omega, by omega⟩ ⟨by decide, by decide⟩ (fun j1 => ?_) (fun j1 => ?_)
  · have j1 : ((M 226 8) + 20) ≤ 400 := j1
    refine gm_sz (gm_p_load (pc := 20) (i := .aload_n 0) (sr := 2) (j := 0) (by decide +kernel) rfl rfl rfl) ?_
    refine gm_sz (fw_gr (pc := 21) (ix := 33) (ci := 11) (j := 14) (r := 232) (by decide +kernel) hk (by decide +kernel) (by decide +kernel) hr5) ?_
    refine gm_sz (gm_p_const (pc := 24) (i := .iconst 0) (v := gm_vi 0) (by decide +kernel) (by decide +kernel)) ?_
    refine gm_sz (gm_p_load (pc := 25) (i := .iload_n 1) (sr := 0) (j := 1) (by decide +kernel) rfl rfl rfl) ?_
    refine gm_sz (fw_is (pc := 26) (k := 232) (len := 5) (e0 := 0) (x := a 0) (M' := ff M (M 226 8) (M 231) (fun t9 => if t9 = 0 then a 0 else (M 232) t9)) (by decide +kernel) (e5 : (1 ≤ 232 ∧ 232 ≤ n) ∧ K 232 = (0, 5)).1 (e5 : (1 ≤ 232 ∧ 232 ≤ n) ∧ K 232 = (0, 5)).2 (by decide) ⟨by omega, by omega⟩ ff_v) ?_
    refine gm_sz (gm_p_load (pc := 27) (i := .aload_n 0) (sr := 2) (j := 0) (by decide +kernel) rfl rfl rfl) ?_
    refine gm_sz (fw_gr (pc := 28) (ix := 33) (ci := 11) (j := 14) (r := 232) (by decide +kernel) hk (by decide +kernel) (by decide +kernel) hr5) ?_
    refine gm_sz (gm_p_const (pc := 31) (i := .iconst 1) (v := gm_vi 1) (by decide +kernel) (by decide +kernel)) ?_
    refine gm_sz (gm_p_load (pc := 32) (i := .iload_n 2) (sr := 0) (j := 2) (by decide +kernel) rfl rfl rfl) ?_
    refine gm_sz (fw_is (pc := 33) (k := 232) (len := 5) (e0 := 1) (x := a 1) (M' := ff M (M 226 8) (M 231) (fun t9 => if t9 = 1 then a 1 else (fun t9 => if t9 = 0 then a 0 else (M 232) t9) t9)) (by decide +kernel) (e5 : (1 ≤ 232 ∧ 232 ≤ n) ∧ K 232 = (0, 5)).1 (e5 : (1 ≤ 232 ∧ 232 ≤ n) ∧ K 232 = (0, 5)).2 (by decide) ⟨by omega, by omega⟩ ff_v) ?_
    refine gm_sz (gm_p_load (pc := 34) (i := .aload_n 0) (sr := 2) (j := 0) (by decide +kernel) rfl rfl rfl) ?_
    refine gm_sz (fw_gr (pc := 35) (ix := 33) (ci := 11) (j := 14) (r := 232) (by decide +kernel) hk (by decide +kernel) (by decide +kernel) hr5) ?_
    refine gm_sz (gm_p_const (pc := 38) (i := .iconst 2) (v := gm_vi 2) (by decide +kernel) (by decide +kernel)) ?_
    refine gm_sz (gm_p_load (pc := 39) (i := .iload_n 3) (sr := 0) (j := 3) (by decide +kernel) rfl rfl rfl) ?_
    refine gm_sz (fw_is (pc := 40) (k := 232) (len := 5) (e0 := 2) (x := a 2) (M' := ff M (M 226 8) (M 231) (fun t9 => if t9 = 2 then a 2 else (fun t9 => if t9 = 1 then a 1 else (fun t9 => if t9 = 0 then a 0 else (M 232) t9) t9) t9)) (by decide +kernel) (e5 : (1 ≤ 232 ∧ 232 ≤ n) ∧ K 232 = (0, 5)).1 (e5 : (1 ≤ 232 ∧ 232 ≤ n) ∧ K 232 = (0, 5)).2 (by decide) ⟨by omega, by omega⟩ ff_v) ?_
    refine gm_sz (gm_p_load (pc := 41) (i := .aload_n 0) (sr := 2) (j := 0) (by decide +kernel) rfl rfl rfl) ?_
    refine gm_sz (fw_gr (pc := 42) (ix := 33) (ci := 11) (j := 14) (r := 232) (by decide +kernel) hk (by decide +kernel) (by decide +kernel) hr5) ?_
    refine gm_sz (gm_p_const (pc := 45) (i := .iconst 3) (v := gm_vi 3) (by decide +kernel) (by decide +kernel)) ?_
    refine gm_sz (gm_p_load (pc := 46) (i := .iload 4) (sr := 0) (j := 4) (by decide +kernel) rfl rfl rfl) ?_
    refine gm_sz (fw_is (pc := 48) (k := 232) (len := 5) (e0 := 3) (x := a 3) (M' := ff M (M 226 8) (M 231) (fun t9 => if t9 = 3 then a 3 else (fun t9 => if t9 = 2 then a 2 else (fun t9 => if t9 = 1 then a 1 else (fun t9 => if t9 = 0 then a 0 else (M 232) t9) t9) t9) t9)) (by decide +kernel) (e5 : (1 ≤ 232 ∧ 232 ≤ n) ∧ K 232 = (0, 5)).1 (e5 : (1 ≤ 232 ∧ 232 ≤ n) ∧ K 232 = (0, 5)).2 (by decide) ⟨by omega, by omega⟩ ff_v) ?_
    refine gm_sz (gm_p_load (pc := 49) (i := .aload_n 0) (sr := 2) (j := 0) (by decide +kernel) rfl rfl rfl) ?_
    refine gm_sz (fw_gr (pc := 50) (ix := 33) (ci := 11) (j := 14) (r := 232) (by decide +kernel) hk (by decide +kernel) (by decide +kernel) hr5) ?_
    refine gm_sz (gm_p_const (pc := 53) (i := .iconst 4) (v := gm_vi 4) (by decide +kernel) (by decide +kernel)) ?_
    refine gm_sz (gm_p_load (pc := 54) (i := .iload 5) (sr := 0) (j := 5) (by decide +kernel) rfl rfl rfl) ?_
    refine gm_sz (fw_is (pc := 56) (k := 232) (len := 5) (e0 := 4) (x := a 4) (M' := ff M (M 226 8) (M 231) (fun t9 => if t9 = 4 then a 4 else (fun t9 => if t9 = 3 then a 3 else (fun t9 => if t9 = 2 then a 2 else (fun t9 => if t9 = 1 then a 1 else (fun t9 => if t9 = 0 then a 0 else (M 232) t9) t9) t9) t9) t9)) (by decide +kernel) (e5 : (1 ≤ 232 ∧ 232 ≤ n) ∧ K 232 = (0, 5)).1 (e5 : (1 ≤ 232 ∧ 232 ≤ n) ∧ K 232 = (0, 5)).2 (by decide) ⟨by omega, by omega⟩ ff_v) ?_
    refine gm_sz (gm_p_const (pc := 57) (i := .iconst 0) (v := gm_vi 0) (by decide +kernel) (by decide +kernel)) ?_
    refine gm_sz (gm_p_stor (pc := 58) (i := .istore 6) (sr := 0) (j := 6) (by decide +kernel) rfl (show 7 ≤ _ from Nat.le_of_ble_eq_true rfl) rfl) ?_
    have hV9 : ∀ j : Int, 0 ≤ j ∧ j ≤ 4 → (fun t9 => if t9 = 4 then a 4 else (fun t9 => if t9 = 3 then a 3 else (fun t9 => if t9 = 2 then a 2 else (fun t9 => if t9 = 1 then a 1 else (fun t9 => if t9 = 0 then a 0 else (M 232) t9) t9) t9) t9) t9) j = a j := fun j hj => by
      have hj5 : j = 0 ∨ j = 1 ∨ j = 2 ∨ j = 3 ∨ j = 4 := by omega
      rcases hj5 with rfl | rfl | rfl | rfl | rfl <;> rfl
    have q := fd_l239 (X := X) (LX := LX) (d := d) (bc := bc) (bs := bs) (Q := Q) (t := M 226 8) (a := a) (f := M 231) (V := (fun t9 => if t9 = 4 then a 4 else (fun t9 => if t9 = 3 then a 3 else (fun t9 => if t9 = 2 then a 2 else (fun t9 => if t9 = 1 then a 1 else (fun t9 => if t9 = 0 then a 0 else (M 232) t9) t9) t9) t9) t9)) hk e1 e5 hr1 hr5 ⟨by omega, by omega⟩ hV9 (h1 _ (by omega)) 20 0 (by decide) (Int.le_refl _)
    rw [fdc_0] at q
    exact q
  · have j1 : ¬ ((M 226 8) + 20) ≤ 400 := j1
    refine gm_sz (gm_p_const (pc := 18) (i := .iconst (-1)) (v := gm_vi (-1)) (by decide +kernel) (by decide +kernel)) ?_
    exact gm_r_int (pc := 19) (by decide +kernel) (Or.inl (by decide +kernel)) (h0 (by omega))
end FD
end
/-! 79o.ca -/
section
/-! A CALL, BY ITS ROW AND BY A JUDGEMENT OF ITS OWN that tells what it answers. -/
theorem dt_w {x y : Int} (h : Int32.ofInt x = Int32.ofInt y) : gm_w x = gm_w y := by
  have h2 := congrArg Int32.toInt h
  rwa [gm_w_toInt, gm_w_toInt] at h2
theorem dt_w6 {x y : Int} (h : Int64.ofInt x = Int64.ofInt y) : gm_w6 x = gm_w6 y := by
  have h2 := congrArg Int64.toInt h
  rwa [gm_w6_toInt, gm_w6_toInt] at h2
/-- a number of an array, of an object, told twice -/
theorem dt_a {n k len : Nat} {K1 K2 : gm_K} {M1 M2 : gm_M} {j : Int} (h : dt_m n K1 M1 K2 M2) (h1 : 1 ≤ k) (h2 : k ≤ n) (hK : K1 k = K2 k) (hk : K1 k = (0, len) ∨ K1 k = (1, len)) (j0 : 0 ≤ j) (j1 : j < (len : Int)) (i1 : gm_ir (M1 k j)) (i2 : gm_ir (M2 k j)) : M1 k j = M2 k j := by
  obtain ⟨i, rfl⟩ : ∃ i : Nat, j = (i : Int) := ⟨j.toNat, by omega⟩
  refine dt_i ((h k h1 h2 hK).1 ?_ i ?_) i1 i2
  · rcases hk with hk | hk <;> rw [hk]
    · exact Or.inl rfl
    · exact Or.inr rfl
  · rcases hk with hk | hk <;> rw [hk] <;> exact Int.ofNat_lt.mp j1
theorem dt_f {n k c j : Nat} {K1 K2 : gm_K} {M1 M2 : gm_M} (h : dt_m n K1 M1 K2 M2) (h1 : 1 ≤ k) (h2 : k ≤ n) (hK : K1 k = K2 k) (hk : (K1 k).1 = c + 4) (hj : j < gm_nf c) (hr : ¬ gm_isr c j = true) (i1 : gm_ir (M1 k (j : Int))) (i2 : gm_ir (M2 k (j : Int))) : M1 k (j : Int) = M2 k (j : Int) := dt_i ((h k h1 h2 hK).2.2 c j hk hj hr) i1 i2
section CAA
variable {X : Int → Int} {LX : Nat} {O : gm_Or} {g z g1 : Nat} {la : Nat → Nat} {K K' K1 : gm_K} {R R' : gm_R} {M M' M1 : gm_M} {S : ck_Sum}
/-- what the row says, what the judgement says, and all that comes behind -/
def bc_KA (X : Int → Int) (LX d bc bs mi pc : Nat) (L : gm_L) (st : List gm_V) (Q : gm_Q) (O : gm_Or) (z g1 g : Nat) (la : Nat → Nat) (K : gm_K) (M : gm_M) (S : ck_Sum) (Qf : gm_Q) : Prop := ∀ oc ∈ S.2.2.2.2.2, ∀ (σ : Nat → Int) (u : Option gm_V) (n' : Nat) (K' : gm_K) (R' : gm_R) (M' : gm_M), (∀ q ∈ O.2.2.nm, σ q.1 = bs_M la M q.2.1 q.2.2) → ck_ho σ oc.1 (.inl u) → ck_gf σ oc.2.2 n' K' R' M' → gm_Fx O n' K' R' M' → ck_fr S.2.2.2.2.1 (245 + 4 * g1) (bs_K la K) (bs_R z g1) (bs_M la M) n' K' R' M' → ∀ (o2 : gm_O) (n2 : Nat) (Ka : gm_K) (Ra : gm_R) (Ma : gm_M), Qf o2 n2 Ka Ra Ma → dt_o (.inl u) o2 → dt_m (245 + 4 * g1) K' M' Ka Ma → ∀ g' la' K2 R2 M2, bg g' la' K2 R2 M2 → g' ≤ g + 1 → (∀ k j, k ≤ 245 → M2 k j = M' k j) → gm_Wp X LX d bc bs mi pc L (u.toList ++ st) (245 + 4 * g') K2 R2 M2 Q
theorem bc_ownA {d bc bs mi pc mj d' bc' bs' : Nat} {L : gm_L} {st : List gm_V} {Q Qf : gm_Q} {vs : List gm_V} (hb : bg g la K R M) (hz : bs_ok la z g1) (hg : g < 10000) (hnm : ck_nmu O) (hO : ∀ n K R M, gm_Fx O n K R M → gm_Fx p2_O n K R M) (hF : gm_Fx O (245 + 4 * g1) (bs_K la K) (bs_R z g1) (bs_M la M)) (hS : ck_Ok O X LX mj S) (hck : bc_ok O z g1 S = true) (h1 : S.1.1 ≤ d') (h2 : S.1.2.1 ≤ bc') (h3 : S.1.2.2 ≤ bs') (hvs : ∀ σ, ck_gas σ S.2.2.1 vs) (hf : gm_Wp X LX d' bc' bs' mj 0 (gm_ent mj vs) [] (245 + 4 * g1) (bs_K la K) (bs_R z g1) (bs_M la M) Qf) (k : bc_KA X LX d bc bs mi pc L st Q O z g1 g la K M S Qf) : gm_Wp X LX d' bc' bs' mj 0 (gm_ent mj vs) [] (245 + 4 * g1) (bs_K la K) (bs_R z g1) (bs_M la M) (gm_owe X LX d bc bs mi pc L st (bg_rho (la 3)) (bg_f la) (245 + 4 * g1) (245 + 4 * g) K R M Q) := by
  have hck2 := hck
  simp only [bc_ok, Bool.and_eq_true, decide_eq_true_eq] at hck2
  have hσ := ck_sn_s (σ := fun _ => 0) (M := bs_M la M) hnm
  refine gm_Wp_mono (fun o n' K' R' M' hq => ?_) (gm_Wp_and (gm_Wp_wk (Nat.le_refl _) h2 h3 (hS d' (ck_sn O (fun _ => 0) (bs_M la M)) vs _ _ _ _ h1 hck2.1.symm (hvs _) hσ hF (bc_f_s hck2.2.1 hF (by omega) hσ))) hf)
  obtain ⟨hq, o2, n2, Ka, Ra, Ma, hqf, hdo, hdm⟩ := hq
  obtain ⟨hrt, oc, hoc, u, rfl, hu, ho, hf⟩ := bc_rt hck hz hO hq
  exact bg_owe hb hz hg hrt hu (fun g' la' K2 R2 M2 hb2 hg2 hM2 => k oc hoc _ u n' K' R' M' hσ ho hf hq.1 hq.2.1 o2 n2 Ka Ra Ma hqf hdo hdm g' la' K2 R2 M2 hb2 hg2 hM2)
/-- a call on the object k1 itself -/
theorem bc_virtA {ix mj k1 ci mi pc d bc bs d' bc' bs' : Nat} {L : gm_L} {st : List gm_V} {Q Qf : gm_Q} {xs : List Int} (hb : bg g la K R M) (hz : bs_ok la z g1) (hg : g < 10000) (hnm : ck_nmu O) (hO : ∀ n K R M, gm_Fx O n K R M → gm_Fx p2_O n K R M) (hF : gm_Fx O (245 + 4 * g1) (bs_K la K) (bs_R z g1) (bs_M la M)) (hk1 : 1 ≤ k1 ∧ k1 ≤ 245) (hK1 : (K k1).1 = ci + 4) (h : gm_at mi pc = some (.invokevirtual ix)) (hc : gm_cal (gm_ow mi) ix = some (0, mj)) (hmx : gm_ow mj ≠ gm_mxi) (hci : ci < 12) (hcn : gm_cn ci = (gm_mn mj).cls) (hna : xs.length = gm_na mj) (hlen : xs.length + 1 ≤ gm_ml mj) (hst : (st.map gm_cat).sum ≤ 8) (hS : ck_Ok O X LX mj S) (hck : bc_ok O z g1 S = true) (h1 : S.1.1 ≤ d') (h2 : S.1.2.1 ≤ bc') (h3 : S.1.2.2 ≤ bs') (hd : d' + 1 ≤ d) (hb1 : bc' ≤ bc) (hb2 : bs' ≤ bs) (hvs : ∀ σ, ck_gas σ S.2.2.1 (gm_vr k1 :: xs.map gm_vi)) (hf : gm_Wp X LX d' bc' bs' mj 0 (gm_ent mj (gm_vr k1 :: xs.map gm_vi)) [] (245 + 4 * g1) (bs_K la K) (bs_R z g1) (bs_M la M) Qf) (k : bc_KA X LX d (bc - bc') (bs - bs') mi (pc + 3) L st Q O z g1 g la K M S Qf) : gm_Wp X LX d bc bs mi pc L ((xs.map gm_vi).reverse ++ gm_vr k1 :: st) (245 + 4 * g) K R M Q := by
  have er : bg_rho (la 3) k1 = k1 := by unfold bg_rho; rw [if_pos (by omega)]
  have := gm_c_virtS (k1 := k1) (as := xs.map gm_vi) (d' := d') (bc' := bc') (bs' := bs') (fun ti α => bg_sbw hb hz ti α) (fun i j a b c d e => bc_hin hz i j a b c d e) (bs_Rv hz) ⟨hk1.1, by omega⟩ (show (bs_K la K k1).1 = ci + 4 by unfold bs_K; rw [er]; exact hK1) h hc hmx hci hcn (by rw [List.length_map]; exact hna) (fun v hv => by obtain ⟨x, -, rfl⟩ := List.mem_map.mp hv; exact ⟨x, rfl⟩) (by rw [List.length_map]; exact hlen) hst hd hb1 hb2 (bc_ownA hb hz hg hnm hO hF hS hck h1 h2 h3 hvs hf k)
  rw [er] at this
  exact this
end CAA
/-! A TAPE'S BYTES beyond its end are nobody's. -/
theorem nM_at {D : va_G} {ti : Nat → ClassId} {α : Nat → Nat} {k a c len : Nat} {K : gm_K} {R : gm_R} {M M' : gm_M} {H : Heap} (hc : K c = (1, len)) (h : ∀ k j, ¬ k = c → M' k j = M k j) (h2 : ∀ j : Nat, j < len → M' c (j : Int) = M c (j : Int)) (hat : va_at D gm_cs (a, gm_en ti α K R M k) H) : va_at D gm_cs (a, gm_en ti α K R M' k) H := by
  by_cases e : k = c
  · subst e
    have e1 : ∀ M : gm_M, gm_en ti α K R M k = .inl (ti 1, len, .inl fun j => Int32.ofInt (M k j)) := fun M => by unfold gm_en; rw [hc]
    rw [e1] at hat ⊢
    have hat : H[a]? = some (arrV (ti 1) len (fun j => .int (Int32.ofInt (M k (j : Int))))) := hat
    show H[a]? = some (arrV (ti 1) len (fun j => .int (Int32.ofInt (M' k (j : Int)))))
    rw [hat]
    unfold arrV
    congr 3
    funext j
    show Value.int (Int32.ofInt (M k ((j.val : Nat) : Int))) = Value.int (Int32.ofInt (M' k ((j.val : Nat) : Int)))
    rw [h2 j.val j.isLt]
  · have e2 : gm_en ti α K R M' k = gm_en ti α K R M k := bg_en rfl (fun j => h k j e) (fun _ => rfl)
    rw [e2]
    exact hat
theorem gm_Wp_nM {X : Int → Int} {LX d bc bs mi pc n c len : Nat} {L : gm_L} {st : List gm_V} {K : gm_K} {R : gm_R} {M M' : gm_M} {Q : gm_Q} (hc : K c = (1, len)) (h : ∀ k j, ¬ k = c → M' k j = M k j) (h0 : ∀ j : Nat, j < len → M' c (j : Int) = M c (j : Int)) (hw : gm_Wp X LX d bc bs mi pc L st n K R M' Q) : gm_Wp X LX d bc bs mi pc L st n K R M Q := by
  intro p l e Rm s m args below meth c9 D ti adK adV A α0 n0 mc ms h1 h2 h3 h4 h5 h6 h7 α H locs cells slots ls sv h8 h9 h10 hR h12 h13
  refine hw p l e Rm s m args below meth c9 D ti adK adV A α0 n0 mc ms h1 h2 h3 h4 h5 h6 h7 α H locs cells slots ls sv h8 h9 h10 ?_ h12 h13
  obtain ⟨a1, a2, a3, a4, a5⟩ := hR
  refine ⟨a1, fun k q hq => ?_, ⟨fun i j p q hp hq e => ?_, fun k q hq => ?_⟩, a4, a5⟩
  · obtain ⟨b1, rfl⟩ := gm_wl_get hq
    exact nM_at hc h h0 (a2 k _ (gm_wl_at (k := k + 1) (by omega) b1))
  · obtain ⟨b1, rfl⟩ := gm_wl_get hp
    obtain ⟨c1, rfl⟩ := gm_wl_get hq
    exact a3.1 i j _ _ (gm_wl_at (k := i + 1) (by omega) b1) (gm_wl_at (k := j + 1) (by omega) c1) e
  · obtain ⟨b1, rfl⟩ := gm_wl_get hq
    have := a3.2 k _ (gm_wl_at (ti := ti) (α := α) (K := K) (R := R) (M := M) (k := k + 1) (by omega) b1)
    exact this
theorem nM_ty : (p2_O.2.2.ty 231).all (fun r => decide (0 ≤ r.1 ∧ r.2.1 ≤ 399)) = true := by decide +kernel
theorem nM_Fx {n : Nat} {K : gm_K} {R : gm_R} {M M' : gm_M} (hF : gm_Fx p2_O n K R M) (h : ∀ k j, ¬ k = 231 → M' k j = M k j) (h0 : ∀ j, 0 ≤ j → j ≤ 399 → M' 231 j = M 231 j) : gm_Fx p2_O n K R M' := by
  refine ⟨hF.1, hF.2.1, fun k r hr => ?_, hF.2.2.2.1, ?_⟩
  · obtain ⟨a, b⟩ := hF.2.2.1 k r hr
    refine ⟨a, fun j j1 j2 => ?_⟩
    have e : M' k j = M k j := by
      by_cases hk : k = 231
      · subst hk
        have := of_decide_eq_true (List.all_eq_true.mp nM_ty r hr)
        exact h0 j (by omega) (by omega)
      · exact h k j hk
    rw [e]
    exact b j j1 j2
  · refine p2_O.2.2.hJ K K M M' (fun _ _ _ => rfl) (fun k r hr j j1 j2 => h k j (fun hk => ?_)) hF.2.2.2.2
    subst hk
    have hr : r ∈ j_fp 231 := hr
    rw [show j_fp 231 = [] by unfold j_fp; rw [if_neg (by decide), if_neg (by decide), if_neg (by decide), if_neg (by decide)]] at hr
    cases hr
end
