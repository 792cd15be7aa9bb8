/-! THE REFERENCE'S READER OF A LAW, with the steps that it lays down (laid by wip/core/k2.py out of p5's texts). -/
/-- the steps laid down so far -/
noncomputable def RL (L : List (Int × Int)) (W0 : Int → Int) (st : Int) (W : Int → Int) : Prop := st = (L.length : Int) ∧ (∀ j, j < 1293 → W j = W0 j) ∧ ∀ (i : Nat) (p : Int × Int), L[i]? = some p → W (1293 + 2 * (i : Int)) = p.1 ∧ W (1293 + 2 * (i : Int) + 1) = p.2
theorem rl_put {L : List (Int × Int)} {W0 W W2 : Int → Int} {st x y : Int} (h : RL L W0 st W) (h2 : W2 = fun t9 => if t9 = (1293 + (2 * st)) + 1 then y else if t9 = 1293 + (2 * st) then x else W t9) : RL (L ++ [(x, y)]) W0 (st + 1) W2 := by
  subst h2
  obtain ⟨e1, e2, e3⟩ := h
  refine ⟨?_, fun j hj => ?_, fun i p hi => ?_⟩
  · rw [List.length_append]
    show st + 1 = ((L.length + 1 : Nat) : Int)
    omega
  · show (if j = (1293 + (2 * st)) + 1 then y else if j = 1293 + (2 * st) then x else W j) = W0 j
    rw [if_neg (by omega), if_neg (by omega)]
    exact e2 j hj
  · show (if 1293 + 2 * (i : Int) = (1293 + (2 * st)) + 1 then y else if 1293 + 2 * (i : Int) = 1293 + (2 * st) then x else W (1293 + 2 * (i : Int))) = p.1 ∧ (if 1293 + 2 * (i : Int) + 1 = (1293 + (2 * st)) + 1 then y else if 1293 + 2 * (i : Int) + 1 = 1293 + (2 * st) then x else W (1293 + 2 * (i : Int) + 1)) = p.2
    by_cases hl : i < L.length
    · rw [List.getElem?_append_left hl] at hi
      rw [if_neg (by omega), if_neg (by omega), if_neg (by omega), if_neg (by omega)]
      exact e3 i p hi
    · rw [List.getElem?_append_right (by omega)] at hi
      have h0 : i - L.length = 0 := by
        cases hk : i - L.length with
        | zero => rfl
        | succ k => rw [hk] at hi; simp at hi
      rw [h0] at hi
      have e4 : (x, y) = p := by simpa using hi
      subst e4
      rw [if_neg (by omega), if_pos (by omega), if_pos (by omega)]
      exact ⟨rfl, rfl⟩
/-- a method that says whether G stands at the token; E: what steps it lays down -/
noncomputable def cR2 (X : Int → Int) (LX n : Nat) (K : gm_K) (R : gm_R) (M : gm_M) (e dp : Int) (W0 : Int → Int) (mi : Nat) (G : Int → Bool × Int) (E : Int → List (Int × Int)) (dn : Nat) : Prop := ∀ (d bc bs : Nat) (pt b bg st : Int) (W : Int → Int) (L : List (Int × Int)) (Q : gm_Q), dn ≤ d → 0 ≤ pt ∧ pt ≤ e → tx_g (M 231) e pt = b → 0 ≤ st ∧ st + 1 ≤ pt → RL L W0 st W → (∀ p2 bg2 st2 W2, RL (L ++ E b) W0 st2 W2 → (G b).1 = true → 0 ≤ p2 ∧ p2 ≤ e → tx_g (M 231) e p2 = (G b).2 → 0 ≤ st2 ∧ st2 - st ≤ p2 - pt ∧ pt ≤ p2 → Q (.inl (some (gm_vi 1))) n K R (rm M p2 bg2 dp st2 W2)) → (∀ p2 dp2 st2 W2, (∀ j, j < 1293 → W2 j = W0 j) → ¬ (G b).1 = true → Q (.inl (some (gm_vi 0))) n K R (rm M p2 (G b).2 dp2 st2 W2)) → gm_Wp X LX d bc bs mi 0 (gm_ent mi [gm_vr 226]) [] n K R (rm M pt bg dp st W) Q
section KR
variable {X : Int → Int} {LX d bc bs n : Nat} {K : gm_K} {R : gm_R} {M : gm_M} {Q : gm_Q} {e pt bg dp st b : Int} {W W0 : Int → Int} {L : List (Int × Int)}
theorem sr_c279 {x y : Int} (hE : tR n K R M e) (hs : 0 ≤ st ∧ st ≤ 399) (hL : RL L W0 st W) (hq : ∀ W2, RL (L ++ [(x, y)]) W0 (st + 1) W2 → Q (.inl none) n K R (rm M pt bg dp (st + 1) W2)) : gm_Wp X LX d bc bs 279 0 (gm_ent 279 [gm_vr 226, gm_vi x, gm_vi y]) [] n K R (rm M pt bg dp st W) Q := by
  refine gm_sz (gm_p_load (pc := 0) (i := .aload_n 0) (sr := 2) (j := 0) (by decide +kernel) rfl rfl rfl) ?_
  refine gm_sz (fw_gr (pc := 1) (ix := 13) (ci := 11) (j := 1) (r := 227) (by decide +kernel) (tR226 hE) (by decide +kernel) (by decide +kernel) (tRr hE).1) ?_
  refine gm_sz (gm_p_const (pc := 4) (i := .sipush 1293) (v := gm_vi 1293) (by decide +kernel) (by decide +kernel)) ?_
  refine gm_sz (gm_p_const (pc := 7) (i := .iconst 2) (v := gm_vi 2) (by decide +kernel) (by decide +kernel)) ?_
  refine gm_sz (gm_p_load (pc := 8) (i := .aload_n 0) (sr := 2) (j := 0) (by decide +kernel) rfl rfl rfl) ?_
  refine gm_sz (fw_gi (pc := 9) (ix := 224) (ci := 11) (j := 15) (x := st) (by decide +kernel) (tR226 hE) (by decide +kernel) (by decide +kernel) rfl) ?_
  refine gm_sz (gm_p_bin (pc := 12) (i := .imul) (f := fun x y => x * y) (by decide +kernel) rfl) ?_
  refine gm_sz (gm_p_bin (pc := 13) (i := .iadd) (f := fun x y => x + y) (by decide +kernel) rfl) ?_
  refine gm_sz (gm_p_load (pc := 14) (i := .iload_n 1) (sr := 0) (j := 1) (by decide +kernel) rfl rfl rfl) ?_
  refine gm_sz (fw_is (pc := 15) (k := 227) (len := 2093) (e0 := 1293 + (2 * st)) (x := x) (M' := rm M pt bg dp st (fun t9 => if t9 = 1293 + (2 * st) then x else W t9)) (by decide +kernel) (tR227 hE).1 (tR227 hE).2 (by decide) ⟨by omega, by omega⟩ rm_W) ?_
  refine gm_sz (gm_p_load (pc := 16) (i := .aload_n 0) (sr := 2) (j := 0) (by decide +kernel) rfl rfl rfl) ?_
  refine gm_sz (fw_gr (pc := 17) (ix := 13) (ci := 11) (j := 1) (r := 227) (by decide +kernel) (tR226 hE) (by decide +kernel) (by decide +kernel) (tRr hE).1) ?_
  refine gm_sz (gm_p_const (pc := 20) (i := .sipush 1293) (v := gm_vi 1293) (by decide +kernel) (by decide +kernel)) ?_
  refine gm_sz (gm_p_const (pc := 23) (i := .iconst 2) (v := gm_vi 2) (by decide +kernel) (by decide +kernel)) ?_
  refine gm_sz (gm_p_load (pc := 24) (i := .aload_n 0) (sr := 2) (j := 0) (by decide +kernel) rfl rfl rfl) ?_
  refine gm_sz (fw_gi (pc := 25) (ix := 224) (ci := 11) (j := 15) (x := st) (by decide +kernel) (tR226 hE) (by decide +kernel) (by decide +kernel) rfl) ?_
  refine gm_sz (gm_p_bin (pc := 28) (i := .imul) (f := fun x y => x * y) (by decide +kernel) rfl) ?_
  refine gm_sz (gm_p_bin (pc := 29) (i := .iadd) (f := fun x y => x + y) (by decide +kernel) rfl) ?_
  refine gm_sz (gm_p_const (pc := 30) (i := .iconst 1) (v := gm_vi 1) (by decide +kernel) (by decide +kernel)) ?_
  refine gm_sz (gm_p_bin (pc := 31) (i := .iadd) (f := fun x y => x + y) (by decide +kernel) rfl) ?_
  refine gm_sz (gm_p_load (pc := 32) (i := .iload_n 2) (sr := 0) (j := 2) (by decide +kernel) rfl rfl rfl) ?_
  refine gm_sz (fw_is (pc := 33) (k := 227) (len := 2093) (e0 := (1293 + (2 * st)) + 1) (x := y) (M' := rm M pt bg dp st (fun t9 => if t9 = (1293 + (2 * st)) + 1 then y else (fun t9 => if t9 = 1293 + (2 * st) then x else W t9) t9)) (by decide +kernel) (tR227 hE).1 (tR227 hE).2 (by decide) ⟨by omega, by omega⟩ rm_W) ?_
  refine gm_sz (gm_p_load (pc := 34) (i := .aload_n 0) (sr := 2) (j := 0) (by decide +kernel) rfl rfl rfl) ?_
  refine gm_sz (gm_p_dup (pc := 35) (by decide +kernel) fw_sr) ?_
  refine gm_sz (fw_gi (pc := 36) (ix := 224) (ci := 11) (j := 15) (x := st) (by decide +kernel) (tR226 hE) (by decide +kernel) (by decide +kernel) rfl) ?_
  refine gm_sz (gm_p_const (pc := 39) (i := .iconst 1) (v := gm_vi 1) (by decide +kernel) (by decide +kernel)) ?_
  refine gm_sz (gm_p_bin (pc := 40) (i := .iadd) (f := fun x y => x + y) (by decide +kernel) rfl) ?_
  refine gm_sz (fw_pi (pc := 41) (ix := 224) (ci := 11) (j := 15) (M' := rm M pt bg dp (st + 1) (fun t9 => if t9 = (1293 + (2 * st)) + 1 then y else (fun t9 => if t9 = 1293 + (2 * st) then x else W t9) t9)) (by decide +kernel) (tR226 hE) (by decide +kernel) (by decide +kernel) (by decide +kernel) rm_st) ?_
  exact gm_r_void (pc := 44) (by decide +kernel) (by decide +kernel) (hq _ (rl_put hL rfl))

theorem sr_c281 (hE : tR n K R M e) : cR2 X LX n K R M e dp W0 281 (g_par (M 231) e) (fun b => [s_pt (M 231) e b]) 8 := by
  obtain ⟨-, he0, he4⟩ := tRe hE
  intro d bc bs pt b bg st W L Q hd hp hg hst k0 h1 h0
  have h1 : ∀ p2 bg2 st2 W2, RL (L ++ [s_pt (M 231) e b]) W0 st2 W2 → (g_par (M 231) e b).1 = true → 0 ≤ p2 ∧ p2 ≤ e → tx_g (M 231) e p2 = (g_par (M 231) e b).2 → 0 ≤ st2 ∧ st2 - st ≤ p2 - pt ∧ pt ≤ p2 → Q (.inl (some (gm_vi 1))) n K R (rm M p2 bg2 dp st2 W2) := h1
  obtain ⟨hg1, hg2, -⟩ := tx_gb (f := M 231) hp.2
  rw [hg] at hg1 hg2
  have hb : 0 ≤ b ∧ b ≤ e := ⟨by omega, hg2⟩
  have hkb := tx_kc (f := M 231) (e := e) (b := b) (fun h => tRb hE hb.1 (by omega))
  obtain ⟨hs1, hs2, hs3⟩ := tx_sb (f := M 231) hb.2
  refine gm_sz (gm_p_load (pc := 0) (i := .aload_n 0) (sr := 2) (j := 0) (by decide +kernel) rfl rfl rfl) ?_
  refine gm_c_virt (k := 226) (ci := 11) (mj := 248) (ix := 131) (pc := 1) (as := []) (st := []) (d' := d - 1) (bc' := 0) (bs' := 0) (by decide +kernel) (by decide +kernel) (by decide +kernel) (by decide +kernel) (tR226 hE).1 (tR226 hE).2 (by decide) (by decide +kernel) (show 0 = gm_na 248 by decide +kernel) fw_c0 (show 1 ≤ gm_ml 248 by decide +kernel) (Nat.le_of_ble_eq_true rfl) (by omega) (Nat.zero_le _) (Nat.zero_le _) ?_
  refine tr_c248 (by omega) hE hp hg ?_
  show gm_Wp X LX d _ _ 281 4 _ [] n K R _ Q
  have q2 : tx_g (M 231) e b = b := by rw [← hg]; exact tx_gi hp.2
  have g1 : 0 ≤ tx_r (tx_l (M 231)) e b ∧ tx_r (tx_l (M 231)) e b ≤ e := by have := tx_rb (q := tx_l (M 231)) (e := e) _ b rfl hb.2; omega
  refine gm_sz (gm_p_load (pc := 4) (i := .aload_n 0) (sr := 2) (j := 0) (by decide +kernel) rfl rfl rfl) ?_
  refine gm_sz (fw_gi (pc := 5) (ix := 106) (ci := 11) (j := 9) (x := tx_r (tx_l (M 231)) e b) (by decide +kernel) (tR226 hE) (by decide +kernel) (by decide +kernel) rfl) ?_
  refine gm_sz (gm_p_load (pc := 8) (i := .aload_n 0) (sr := 2) (j := 0) (by decide +kernel) rfl rfl rfl) ?_
  refine gm_sz (fw_gi (pc := 9) (ix := 116) (ci := 11) (j := 11) (x := b) (by decide +kernel) (tR226 hE) (by decide +kernel) (by decide +kernel) rfl) ?_
  refine fw_ic (cc := .ne) (pc := 12) (off := 23) (by decide +kernel) (by decide) ⟨by omega, by omega⟩ ⟨by omega, by omega⟩ (fun j3 => ?_) (fun j3 => ?_)
  · have j3 : ¬ (tx_r (tx_l (M 231)) e b) = b := j3
    refine gm_sz (gm_p_load (pc := 35) (i := .aload_n 0) (sr := 2) (j := 0) (by decide +kernel) rfl rfl rfl) ?_
    refine gm_sz (gm_p_ldcs (pc := 36) (i := .ldc 231) (ix := 231) (id := 66) (by decide +kernel) (Or.inl rfl) (by decide +kernel)) ?_
    refine gm_c_virt (k := 226) (ci := 11) (mj := 250) (ix := 134) (pc := 38) (as := [gm_vo 66]) (st := []) (d' := d - 1) (bc' := 0) (bs' := 0) (by decide +kernel) (by decide +kernel) (by decide +kernel) (by decide +kernel) (tR226 hE).1 (tR226 hE).2 (by decide) (by decide +kernel) (show 1 = gm_na 250 by decide +kernel) (fw_c1 fw_so) (show 2 ≤ gm_ml 250 by decide +kernel) (Nat.le_of_ble_eq_true rfl) (by omega) (Nat.zero_le _) (Nat.zero_le _) ?_
    refine tr_c250 (by omega) hE (by decide) (show tx_o 66 = wo_lane by decide +kernel) ⟨hb.1, (tx_rb (q := tx_l (M 231)) (e := e) _ b rfl hb.2).1, (tx_rb (q := tx_l (M 231)) (e := e) _ b rfl hb.2).2.1⟩ (fun j4 => ?_) (fun j4 => ?_)
    · show gm_Wp X LX d _ _ 281 41 _ [gm_vi 1] n K R _ Q
      have j4 : tx_is (M 231) e b wo_lane := (tr_is hb (by decide)).mp j4
      have q5 : tx_g (M 231) e (tx_r (tx_l (M 231)) e b) = tx_n (M 231) e b := by rw [← tx_s1 j4]; rfl
      have g7 : 0 ≤ tx_n (M 231) e b ∧ tx_n (M 231) e b ≤ e := by have := tx_nb (f := M 231) (b := b) hb.2; have := hb.1; omega
      have g6 : b + 1 ≤ tx_r (tx_l (M 231)) e b := by have := (tx_sb (f := M 231) hb.2).2.2 (g_isb j4); rwa [tx_s1 j4] at this
      refine fw_iffd (cc := .eq) (pc := 41) (off := 7) (by decide +kernel) (by decide) ⟨by decide, by decide⟩ (by decide) ?_
      refine gm_sz (gm_p_const (pc := 44) (i := .iconst 0) (v := gm_vi 0) (by decide +kernel) (by decide +kernel)) ?_
      refine gm_sz (gm_p_goto (pc := 45) (off := 97) (by decide +kernel) (by decide)) ?_
      refine gm_sz (gm_p_stor (pc := 142) (i := .istore_n 1) (sr := 0) (j := 1) (by decide +kernel) rfl (show 2 ≤ _ from Nat.le_of_ble_eq_true rfl) rfl) ?_
      refine gm_sz (gm_p_load (pc := 143) (i := .aload_n 0) (sr := 2) (j := 0) (by decide +kernel) rfl rfl rfl) ?_
      refine gm_sz (gm_p_load (pc := 144) (i := .iload_n 1) (sr := 0) (j := 1) (by decide +kernel) rfl rfl rfl) ?_
      refine gm_sz (gm_p_const (pc := 145) (i := .iconst 0) (v := gm_vi 0) (by decide +kernel) (by decide +kernel)) ?_
      refine gm_c_virt (k := 226) (ci := 11) (mj := 279) (ix := 227) (pc := 146) (as := [gm_vi 0, gm_vi 0]) (st := []) (d' := d - 1) (bc' := 0) (bs' := 0) (by decide +kernel) (by decide +kernel) (by decide +kernel) (by decide +kernel) (tR226 hE).1 (tR226 hE).2 (by decide) (by decide +kernel) (show 2 = gm_na 279 by decide +kernel) (fw_c2 fw_si fw_si) (show 3 ≤ gm_ml 279 by decide +kernel) (Nat.le_of_ble_eq_true rfl) (by omega) (Nat.zero_le _) (Nat.zero_le _) ?_
      refine sr_c279 hE ⟨by omega, by omega⟩ k0 (fun W8 kW8 => ?_)
      show gm_Wp X LX d _ _ 281 149 _ [] n K R _ Q
      refine gm_sz (gm_p_load (pc := 149) (i := .iload_n 1) (sr := 0) (j := 1) (by decide +kernel) rfl rfl rfl) ?_
      refine fw_iffd (cc := .lt) (pc := 150) (off := 7) (by decide +kernel) (by decide) ⟨by decide, by decide⟩ (by decide) ?_
      refine gm_sz (gm_p_const (pc := 153) (i := .iconst 1) (v := gm_vi 1) (by decide +kernel) (by decide +kernel)) ?_
      refine gm_sz (gm_p_goto (pc := 154) (off := 4) (by decide +kernel) (by decide)) ?_
      rw [g_p1 (Or.inr (Or.inl j4))] at h1
      have z9 : s_pt (M 231) e b = (0, 0) := by
        unfold s_pt s_fc
        rw [tif_f (show ¬ tx_k (M 231) e b = 258 by have := g_kis j4; omega), tif_t j4]
      rw [z9] at h1
      have hs3 := hs3 (g_isb j4)
      rw [tx_s1 j4] at hs1 hs2 hs3
      refine gm_r_int (pc := 158) (by decide +kernel) (Or.inr ⟨(by decide +kernel), Or.inr rfl⟩) (h1 _ _ _ _ kW8 rfl ⟨by omega, by omega⟩ ?_ ⟨by omega, by omega, by omega⟩)
      rw [← tx_s1 j4]
      rfl
    · show gm_Wp X LX d _ _ 281 41 _ [gm_vi 0] n K R _ Q
      have j4 : ¬ tx_is (M 231) e b wo_lane := fun hh => j4 ((tr_is hb (by decide)).mpr hh)
      refine fw_iftd (cc := .eq) (pc := 41) (off := 7) (by decide +kernel) (by decide) ⟨by decide, by decide⟩ (by decide) ?_
      refine gm_sz (gm_p_load (pc := 48) (i := .aload_n 0) (sr := 2) (j := 0) (by decide +kernel) rfl rfl rfl) ?_
      refine gm_sz (gm_p_ldcs (pc := 49) (i := .ldc 233) (ix := 233) (id := 67) (by decide +kernel) (Or.inl rfl) (by decide +kernel)) ?_
      refine gm_c_virt (k := 226) (ci := 11) (mj := 250) (ix := 134) (pc := 51) (as := [gm_vo 67]) (st := []) (d' := d - 1) (bc' := 0) (bs' := 0) (by decide +kernel) (by decide +kernel) (by decide +kernel) (by decide +kernel) (tR226 hE).1 (tR226 hE).2 (by decide) (by decide +kernel) (show 1 = gm_na 250 by decide +kernel) (fw_c1 fw_so) (show 2 ≤ gm_ml 250 by decide +kernel) (Nat.le_of_ble_eq_true rfl) (by omega) (Nat.zero_le _) (Nat.zero_le _) ?_
      refine tr_c250 (by omega) hE (by decide) (show tx_o 67 = wo_row by decide +kernel) ⟨hb.1, (tx_rb (q := tx_l (M 231)) (e := e) _ b rfl hb.2).1, (tx_rb (q := tx_l (M 231)) (e := e) _ b rfl hb.2).2.1⟩ (fun j9 => ?_) (fun j9 => ?_)
      · show gm_Wp X LX d _ _ 281 54 _ [gm_vi 1] n K R _ Q
        have j9 : tx_is (M 231) e b wo_row := (tr_is hb (by decide)).mp j9
        have q10 : tx_g (M 231) e (tx_r (tx_l (M 231)) e b) = tx_n (M 231) e b := by rw [← tx_s1 j9]; rfl
        have g12 : 0 ≤ tx_n (M 231) e b ∧ tx_n (M 231) e b ≤ e := by have := tx_nb (f := M 231) (b := b) hb.2; have := hb.1; omega
        have g11 : b + 1 ≤ tx_r (tx_l (M 231)) e b := by have := (tx_sb (f := M 231) hb.2).2.2 (g_isb j9); rwa [tx_s1 j9] at this
        refine fw_iffd (cc := .eq) (pc := 54) (off := 7) (by decide +kernel) (by decide) ⟨by decide, by decide⟩ (by decide) ?_
        refine gm_sz (gm_p_const (pc := 57) (i := .iconst 1) (v := gm_vi 1) (by decide +kernel) (by decide +kernel)) ?_
        refine gm_sz (gm_p_goto (pc := 58) (off := 84) (by decide +kernel) (by decide)) ?_
        refine gm_sz (gm_p_stor (pc := 142) (i := .istore_n 1) (sr := 0) (j := 1) (by decide +kernel) rfl (show 2 ≤ _ from Nat.le_of_ble_eq_true rfl) rfl) ?_
        refine gm_sz (gm_p_load (pc := 143) (i := .aload_n 0) (sr := 2) (j := 0) (by decide +kernel) rfl rfl rfl) ?_
        refine gm_sz (gm_p_load (pc := 144) (i := .iload_n 1) (sr := 0) (j := 1) (by decide +kernel) rfl rfl rfl) ?_
        refine gm_sz (gm_p_const (pc := 145) (i := .iconst 0) (v := gm_vi 0) (by decide +kernel) (by decide +kernel)) ?_
        refine gm_c_virt (k := 226) (ci := 11) (mj := 279) (ix := 227) (pc := 146) (as := [gm_vi 1, gm_vi 0]) (st := []) (d' := d - 1) (bc' := 0) (bs' := 0) (by decide +kernel) (by decide +kernel) (by decide +kernel) (by decide +kernel) (tR226 hE).1 (tR226 hE).2 (by decide) (by decide +kernel) (show 2 = gm_na 279 by decide +kernel) (fw_c2 fw_si fw_si) (show 3 ≤ gm_ml 279 by decide +kernel) (Nat.le_of_ble_eq_true rfl) (by omega) (Nat.zero_le _) (Nat.zero_le _) ?_
        refine sr_c279 hE ⟨by omega, by omega⟩ k0 (fun W13 kW13 => ?_)
        show gm_Wp X LX d _ _ 281 149 _ [] n K R _ Q
        refine gm_sz (gm_p_load (pc := 149) (i := .iload_n 1) (sr := 0) (j := 1) (by decide +kernel) rfl rfl rfl) ?_
        refine fw_iffd (cc := .lt) (pc := 150) (off := 7) (by decide +kernel) (by decide) ⟨by decide, by decide⟩ (by decide) ?_
        refine gm_sz (gm_p_const (pc := 153) (i := .iconst 1) (v := gm_vi 1) (by decide +kernel) (by decide +kernel)) ?_
        refine gm_sz (gm_p_goto (pc := 154) (off := 4) (by decide +kernel) (by decide)) ?_
        rw [g_p1 (Or.inr (Or.inr (Or.inl j9)))] at h1
        have z9 : s_pt (M 231) e b = (1, 0) := by
          unfold s_pt s_fc
          rw [tif_f (show ¬ tx_k (M 231) e b = 258 by have := g_kis j9; omega), tif_f j4, tif_t j9]
        rw [z9] at h1
        have hs3 := hs3 (g_isb j9)
        rw [tx_s1 j9] at hs1 hs2 hs3
        refine gm_r_int (pc := 158) (by decide +kernel) (Or.inr ⟨(by decide +kernel), Or.inr rfl⟩) (h1 _ _ _ _ kW13 rfl ⟨by omega, by omega⟩ ?_ ⟨by omega, by omega, by omega⟩)
        rw [← tx_s1 j9]
        rfl
      · show gm_Wp X LX d _ _ 281 54 _ [gm_vi 0] n K R _ Q
        have j9 : ¬ tx_is (M 231) e b wo_row := fun hh => j9 ((tr_is hb (by decide)).mpr hh)
        refine fw_iftd (cc := .eq) (pc := 54) (off := 7) (by decide +kernel) (by decide) ⟨by decide, by decide⟩ (by decide) ?_
        refine gm_sz (gm_p_load (pc := 61) (i := .aload_n 0) (sr := 2) (j := 0) (by decide +kernel) rfl rfl rfl) ?_
        refine gm_sz (gm_p_ldcs (pc := 62) (i := .ldc 235) (ix := 235) (id := 68) (by decide +kernel) (Or.inl rfl) (by decide +kernel)) ?_
        refine gm_c_virt (k := 226) (ci := 11) (mj := 250) (ix := 134) (pc := 64) (as := [gm_vo 68]) (st := []) (d' := d - 1) (bc' := 0) (bs' := 0) (by decide +kernel) (by decide +kernel) (by decide +kernel) (by decide +kernel) (tR226 hE).1 (tR226 hE).2 (by decide) (by decide +kernel) (show 1 = gm_na 250 by decide +kernel) (fw_c1 fw_so) (show 2 ≤ gm_ml 250 by decide +kernel) (Nat.le_of_ble_eq_true rfl) (by omega) (Nat.zero_le _) (Nat.zero_le _) ?_
        refine tr_c250 (by omega) hE (by decide) (show tx_o 68 = wo_year by decide +kernel) ⟨hb.1, (tx_rb (q := tx_l (M 231)) (e := e) _ b rfl hb.2).1, (tx_rb (q := tx_l (M 231)) (e := e) _ b rfl hb.2).2.1⟩ (fun j14 => ?_) (fun j14 => ?_)
        · show gm_Wp X LX d _ _ 281 67 _ [gm_vi 1] n K R _ Q
          have j14 : tx_is (M 231) e b wo_year := (tr_is hb (by decide)).mp j14
          have q15 : tx_g (M 231) e (tx_r (tx_l (M 231)) e b) = tx_n (M 231) e b := by rw [← tx_s1 j14]; rfl
          have g17 : 0 ≤ tx_n (M 231) e b ∧ tx_n (M 231) e b ≤ e := by have := tx_nb (f := M 231) (b := b) hb.2; have := hb.1; omega
          have g16 : b + 1 ≤ tx_r (tx_l (M 231)) e b := by have := (tx_sb (f := M 231) hb.2).2.2 (g_isb j14); rwa [tx_s1 j14] at this
          refine fw_iffd (cc := .eq) (pc := 67) (off := 7) (by decide +kernel) (by decide) ⟨by decide, by decide⟩ (by decide) ?_
          refine gm_sz (gm_p_const (pc := 70) (i := .iconst 2) (v := gm_vi 2) (by decide +kernel) (by decide +kernel)) ?_
          refine gm_sz (gm_p_goto (pc := 71) (off := 71) (by decide +kernel) (by decide)) ?_
          refine gm_sz (gm_p_stor (pc := 142) (i := .istore_n 1) (sr := 0) (j := 1) (by decide +kernel) rfl (show 2 ≤ _ from Nat.le_of_ble_eq_true rfl) rfl) ?_
          refine gm_sz (gm_p_load (pc := 143) (i := .aload_n 0) (sr := 2) (j := 0) (by decide +kernel) rfl rfl rfl) ?_
          refine gm_sz (gm_p_load (pc := 144) (i := .iload_n 1) (sr := 0) (j := 1) (by decide +kernel) rfl rfl rfl) ?_
          refine gm_sz (gm_p_const (pc := 145) (i := .iconst 0) (v := gm_vi 0) (by decide +kernel) (by decide +kernel)) ?_
          refine gm_c_virt (k := 226) (ci := 11) (mj := 279) (ix := 227) (pc := 146) (as := [gm_vi 2, gm_vi 0]) (st := []) (d' := d - 1) (bc' := 0) (bs' := 0) (by decide +kernel) (by decide +kernel) (by decide +kernel) (by decide +kernel) (tR226 hE).1 (tR226 hE).2 (by decide) (by decide +kernel) (show 2 = gm_na 279 by decide +kernel) (fw_c2 fw_si fw_si) (show 3 ≤ gm_ml 279 by decide +kernel) (Nat.le_of_ble_eq_true rfl) (by omega) (Nat.zero_le _) (Nat.zero_le _) ?_
          refine sr_c279 hE ⟨by omega, by omega⟩ k0 (fun W18 kW18 => ?_)
          show gm_Wp X LX d _ _ 281 149 _ [] n K R _ Q
          refine gm_sz (gm_p_load (pc := 149) (i := .iload_n 1) (sr := 0) (j := 1) (by decide +kernel) rfl rfl rfl) ?_
          refine fw_iffd (cc := .lt) (pc := 150) (off := 7) (by decide +kernel) (by decide) ⟨by decide, by decide⟩ (by decide) ?_
          refine gm_sz (gm_p_const (pc := 153) (i := .iconst 1) (v := gm_vi 1) (by decide +kernel) (by decide +kernel)) ?_
          refine gm_sz (gm_p_goto (pc := 154) (off := 4) (by decide +kernel) (by decide)) ?_
          rw [g_p1 (Or.inr (Or.inr (Or.inr (Or.inl j14))))] at h1
          have z9 : s_pt (M 231) e b = (2, 0) := by
            unfold s_pt s_fc
            rw [tif_f (show ¬ tx_k (M 231) e b = 258 by have := g_kis j14; omega), tif_f j4, tif_f j9, tif_t j14]
          rw [z9] at h1
          have hs3 := hs3 (g_isb j14)
          rw [tx_s1 j14] at hs1 hs2 hs3
          refine gm_r_int (pc := 158) (by decide +kernel) (Or.inr ⟨(by decide +kernel), Or.inr rfl⟩) (h1 _ _ _ _ kW18 rfl ⟨by omega, by omega⟩ ?_ ⟨by omega, by omega, by omega⟩)
          rw [← tx_s1 j14]
          rfl
        · show gm_Wp X LX d _ _ 281 67 _ [gm_vi 0] n K R _ Q
          have j14 : ¬ tx_is (M 231) e b wo_year := fun hh => j14 ((tr_is hb (by decide)).mpr hh)
          refine fw_iftd (cc := .eq) (pc := 67) (off := 7) (by decide +kernel) (by decide) ⟨by decide, by decide⟩ (by decide) ?_
          refine gm_sz (gm_p_load (pc := 74) (i := .aload_n 0) (sr := 2) (j := 0) (by decide +kernel) rfl rfl rfl) ?_
          refine gm_sz (gm_p_ldcs (pc := 75) (i := .ldc 237) (ix := 237) (id := 69) (by decide +kernel) (Or.inl rfl) (by decide +kernel)) ?_
          refine gm_c_virt (k := 226) (ci := 11) (mj := 250) (ix := 134) (pc := 77) (as := [gm_vo 69]) (st := []) (d' := d - 1) (bc' := 0) (bs' := 0) (by decide +kernel) (by decide +kernel) (by decide +kernel) (by decide +kernel) (tR226 hE).1 (tR226 hE).2 (by decide) (by decide +kernel) (show 1 = gm_na 250 by decide +kernel) (fw_c1 fw_so) (show 2 ≤ gm_ml 250 by decide +kernel) (Nat.le_of_ble_eq_true rfl) (by omega) (Nat.zero_le _) (Nat.zero_le _) ?_
          refine tr_c250 (by omega) hE (by decide) (show tx_o 69 = wo_heat by decide +kernel) ⟨hb.1, (tx_rb (q := tx_l (M 231)) (e := e) _ b rfl hb.2).1, (tx_rb (q := tx_l (M 231)) (e := e) _ b rfl hb.2).2.1⟩ (fun j19 => ?_) (fun j19 => ?_)
          · show gm_Wp X LX d _ _ 281 80 _ [gm_vi 1] n K R _ Q
            have j19 : tx_is (M 231) e b wo_heat := (tr_is hb (by decide)).mp j19
            have q20 : tx_g (M 231) e (tx_r (tx_l (M 231)) e b) = tx_n (M 231) e b := by rw [← tx_s1 j19]; rfl
            have g22 : 0 ≤ tx_n (M 231) e b ∧ tx_n (M 231) e b ≤ e := by have := tx_nb (f := M 231) (b := b) hb.2; have := hb.1; omega
            have g21 : b + 1 ≤ tx_r (tx_l (M 231)) e b := by have := (tx_sb (f := M 231) hb.2).2.2 (g_isb j19); rwa [tx_s1 j19] at this
            refine fw_iffd (cc := .eq) (pc := 80) (off := 7) (by decide +kernel) (by decide) ⟨by decide, by decide⟩ (by decide) ?_
            refine gm_sz (gm_p_const (pc := 83) (i := .iconst 3) (v := gm_vi 3) (by decide +kernel) (by decide +kernel)) ?_
            refine gm_sz (gm_p_goto (pc := 84) (off := 58) (by decide +kernel) (by decide)) ?_
            refine gm_sz (gm_p_stor (pc := 142) (i := .istore_n 1) (sr := 0) (j := 1) (by decide +kernel) rfl (show 2 ≤ _ from Nat.le_of_ble_eq_true rfl) rfl) ?_
            refine gm_sz (gm_p_load (pc := 143) (i := .aload_n 0) (sr := 2) (j := 0) (by decide +kernel) rfl rfl rfl) ?_
            refine gm_sz (gm_p_load (pc := 144) (i := .iload_n 1) (sr := 0) (j := 1) (by decide +kernel) rfl rfl rfl) ?_
            refine gm_sz (gm_p_const (pc := 145) (i := .iconst 0) (v := gm_vi 0) (by decide +kernel) (by decide +kernel)) ?_
            refine gm_c_virt (k := 226) (ci := 11) (mj := 279) (ix := 227) (pc := 146) (as := [gm_vi 3, gm_vi 0]) (st := []) (d' := d - 1) (bc' := 0) (bs' := 0) (by decide +kernel) (by decide +kernel) (by decide +kernel) (by decide +kernel) (tR226 hE).1 (tR226 hE).2 (by decide) (by decide +kernel) (show 2 = gm_na 279 by decide +kernel) (fw_c2 fw_si fw_si) (show 3 ≤ gm_ml 279 by decide +kernel) (Nat.le_of_ble_eq_true rfl) (by omega) (Nat.zero_le _) (Nat.zero_le _) ?_
            refine sr_c279 hE ⟨by omega, by omega⟩ k0 (fun W23 kW23 => ?_)
            show gm_Wp X LX d _ _ 281 149 _ [] n K R _ Q
            refine gm_sz (gm_p_load (pc := 149) (i := .iload_n 1) (sr := 0) (j := 1) (by decide +kernel) rfl rfl rfl) ?_
            refine fw_iffd (cc := .lt) (pc := 150) (off := 7) (by decide +kernel) (by decide) ⟨by decide, by decide⟩ (by decide) ?_
            refine gm_sz (gm_p_const (pc := 153) (i := .iconst 1) (v := gm_vi 1) (by decide +kernel) (by decide +kernel)) ?_
            refine gm_sz (gm_p_goto (pc := 154) (off := 4) (by decide +kernel) (by decide)) ?_
            rw [g_p1 (Or.inr (Or.inr (Or.inr (Or.inr (Or.inl j19)))))] at h1
            have z9 : s_pt (M 231) e b = (3, 0) := by
              unfold s_pt s_fc
              rw [tif_f (show ¬ tx_k (M 231) e b = 258 by have := g_kis j19; omega), tif_f j4, tif_f j9, tif_f j14, tif_t j19]
            rw [z9] at h1
            have hs3 := hs3 (g_isb j19)
            rw [tx_s1 j19] at hs1 hs2 hs3
            refine gm_r_int (pc := 158) (by decide +kernel) (Or.inr ⟨(by decide +kernel), Or.inr rfl⟩) (h1 _ _ _ _ kW23 rfl ⟨by omega, by omega⟩ ?_ ⟨by omega, by omega, by omega⟩)
            rw [← tx_s1 j19]
            rfl
          · show gm_Wp X LX d _ _ 281 80 _ [gm_vi 0] n K R _ Q
            have j19 : ¬ tx_is (M 231) e b wo_heat := fun hh => j19 ((tr_is hb (by decide)).mpr hh)
            refine fw_iftd (cc := .eq) (pc := 80) (off := 7) (by decide +kernel) (by decide) ⟨by decide, by decide⟩ (by decide) ?_
            refine gm_sz (gm_p_load (pc := 87) (i := .aload_n 0) (sr := 2) (j := 0) (by decide +kernel) rfl rfl rfl) ?_
            refine gm_sz (gm_p_ldcs (pc := 88) (i := .ldc 239) (ix := 239) (id := 70) (by decide +kernel) (Or.inl rfl) (by decide +kernel)) ?_
            refine gm_c_virt (k := 226) (ci := 11) (mj := 250) (ix := 134) (pc := 90) (as := [gm_vo 70]) (st := []) (d' := d - 1) (bc' := 0) (bs' := 0) (by decide +kernel) (by decide +kernel) (by decide +kernel) (by decide +kernel) (tR226 hE).1 (tR226 hE).2 (by decide) (by decide +kernel) (show 1 = gm_na 250 by decide +kernel) (fw_c1 fw_so) (show 2 ≤ gm_ml 250 by decide +kernel) (Nat.le_of_ble_eq_true rfl) (by omega) (Nat.zero_le _) (Nat.zero_le _) ?_
            refine tr_c250 (by omega) hE (by decide) (show tx_o 70 = wo_speed by decide +kernel) ⟨hb.1, (tx_rb (q := tx_l (M 231)) (e := e) _ b rfl hb.2).1, (tx_rb (q := tx_l (M 231)) (e := e) _ b rfl hb.2).2.1⟩ (fun j24 => ?_) (fun j24 => ?_)
            · show gm_Wp X LX d _ _ 281 93 _ [gm_vi 1] n K R _ Q
              have j24 : tx_is (M 231) e b wo_speed := (tr_is hb (by decide)).mp j24
              have q25 : tx_g (M 231) e (tx_r (tx_l (M 231)) e b) = tx_n (M 231) e b := by rw [← tx_s1 j24]; rfl
              have g27 : 0 ≤ tx_n (M 231) e b ∧ tx_n (M 231) e b ≤ e := by have := tx_nb (f := M 231) (b := b) hb.2; have := hb.1; omega
              have g26 : b + 1 ≤ tx_r (tx_l (M 231)) e b := by have := (tx_sb (f := M 231) hb.2).2.2 (g_isb j24); rwa [tx_s1 j24] at this
              refine fw_iffd (cc := .eq) (pc := 93) (off := 7) (by decide +kernel) (by decide) ⟨by decide, by decide⟩ (by decide) ?_
              refine gm_sz (gm_p_const (pc := 96) (i := .iconst 4) (v := gm_vi 4) (by decide +kernel) (by decide +kernel)) ?_
              refine gm_sz (gm_p_goto (pc := 97) (off := 45) (by decide +kernel) (by decide)) ?_
              refine gm_sz (gm_p_stor (pc := 142) (i := .istore_n 1) (sr := 0) (j := 1) (by decide +kernel) rfl (show 2 ≤ _ from Nat.le_of_ble_eq_true rfl) rfl) ?_
              refine gm_sz (gm_p_load (pc := 143) (i := .aload_n 0) (sr := 2) (j := 0) (by decide +kernel) rfl rfl rfl) ?_
              refine gm_sz (gm_p_load (pc := 144) (i := .iload_n 1) (sr := 0) (j := 1) (by decide +kernel) rfl rfl rfl) ?_
              refine gm_sz (gm_p_const (pc := 145) (i := .iconst 0) (v := gm_vi 0) (by decide +kernel) (by decide +kernel)) ?_
              refine gm_c_virt (k := 226) (ci := 11) (mj := 279) (ix := 227) (pc := 146) (as := [gm_vi 4, gm_vi 0]) (st := []) (d' := d - 1) (bc' := 0) (bs' := 0) (by decide +kernel) (by decide +kernel) (by decide +kernel) (by decide +kernel) (tR226 hE).1 (tR226 hE).2 (by decide) (by decide +kernel) (show 2 = gm_na 279 by decide +kernel) (fw_c2 fw_si fw_si) (show 3 ≤ gm_ml 279 by decide +kernel) (Nat.le_of_ble_eq_true rfl) (by omega) (Nat.zero_le _) (Nat.zero_le _) ?_
              refine sr_c279 hE ⟨by omega, by omega⟩ k0 (fun W28 kW28 => ?_)
              show gm_Wp X LX d _ _ 281 149 _ [] n K R _ Q
              refine gm_sz (gm_p_load (pc := 149) (i := .iload_n 1) (sr := 0) (j := 1) (by decide +kernel) rfl rfl rfl) ?_
              refine fw_iffd (cc := .lt) (pc := 150) (off := 7) (by decide +kernel) (by decide) ⟨by decide, by decide⟩ (by decide) ?_
              refine gm_sz (gm_p_const (pc := 153) (i := .iconst 1) (v := gm_vi 1) (by decide +kernel) (by decide +kernel)) ?_
              refine gm_sz (gm_p_goto (pc := 154) (off := 4) (by decide +kernel) (by decide)) ?_
              rw [g_p1 (Or.inr (Or.inr (Or.inr (Or.inr (Or.inr (Or.inl j24))))))] at h1
              have z9 : s_pt (M 231) e b = (4, 0) := by
                unfold s_pt s_fc
                rw [tif_f (show ¬ tx_k (M 231) e b = 258 by have := g_kis j24; omega), tif_f j4, tif_f j9, tif_f j14, tif_f j19, tif_t j24]
              rw [z9] at h1
              have hs3 := hs3 (g_isb j24)
              rw [tx_s1 j24] at hs1 hs2 hs3
              refine gm_r_int (pc := 158) (by decide +kernel) (Or.inr ⟨(by decide +kernel), Or.inr rfl⟩) (h1 _ _ _ _ kW28 rfl ⟨by omega, by omega⟩ ?_ ⟨by omega, by omega, by omega⟩)
              rw [← tx_s1 j24]
              rfl
            · show gm_Wp X LX d _ _ 281 93 _ [gm_vi 0] n K R _ Q
              have j24 : ¬ tx_is (M 231) e b wo_speed := fun hh => j24 ((tr_is hb (by decide)).mpr hh)
              refine fw_iftd (cc := .eq) (pc := 93) (off := 7) (by decide +kernel) (by decide) ⟨by decide, by decide⟩ (by decide) ?_
              refine gm_sz (gm_p_load (pc := 100) (i := .aload_n 0) (sr := 2) (j := 0) (by decide +kernel) rfl rfl rfl) ?_
              refine gm_sz (gm_p_ldcs (pc := 101) (i := .ldc 205) (ix := 205) (id := 53) (by decide +kernel) (Or.inl rfl) (by decide +kernel)) ?_
              refine gm_c_virt (k := 226) (ci := 11) (mj := 250) (ix := 134) (pc := 103) (as := [gm_vo 53]) (st := []) (d' := d - 1) (bc' := 0) (bs' := 0) (by decide +kernel) (by decide +kernel) (by decide +kernel) (by decide +kernel) (tR226 hE).1 (tR226 hE).2 (by decide) (by decide +kernel) (show 1 = gm_na 250 by decide +kernel) (fw_c1 fw_so) (show 2 ≤ gm_ml 250 by decide +kernel) (Nat.le_of_ble_eq_true rfl) (by omega) (Nat.zero_le _) (Nat.zero_le _) ?_
              refine tr_c250 (by omega) hE (by decide) (show tx_o 53 = wo_person by decide +kernel) ⟨hb.1, (tx_rb (q := tx_l (M 231)) (e := e) _ b rfl hb.2).1, (tx_rb (q := tx_l (M 231)) (e := e) _ b rfl hb.2).2.1⟩ (fun j29 => ?_) (fun j29 => ?_)
              · show gm_Wp X LX d _ _ 281 106 _ [gm_vi 1] n K R _ Q
                have j29 : tx_is (M 231) e b wo_person := (tr_is hb (by decide)).mp j29
                have q30 : tx_g (M 231) e (tx_r (tx_l (M 231)) e b) = tx_n (M 231) e b := by rw [← tx_s1 j29]; rfl
                have g32 : 0 ≤ tx_n (M 231) e b ∧ tx_n (M 231) e b ≤ e := by have := tx_nb (f := M 231) (b := b) hb.2; have := hb.1; omega
                have g31 : b + 1 ≤ tx_r (tx_l (M 231)) e b := by have := (tx_sb (f := M 231) hb.2).2.2 (g_isb j29); rwa [tx_s1 j29] at this
                refine fw_iffd (cc := .eq) (pc := 106) (off := 7) (by decide +kernel) (by decide) ⟨by decide, by decide⟩ (by decide) ?_
                refine gm_sz (gm_p_const (pc := 109) (i := .iconst 5) (v := gm_vi 5) (by decide +kernel) (by decide +kernel)) ?_
                refine gm_sz (gm_p_goto (pc := 110) (off := 32) (by decide +kernel) (by decide)) ?_
                refine gm_sz (gm_p_stor (pc := 142) (i := .istore_n 1) (sr := 0) (j := 1) (by decide +kernel) rfl (show 2 ≤ _ from Nat.le_of_ble_eq_true rfl) rfl) ?_
                refine gm_sz (gm_p_load (pc := 143) (i := .aload_n 0) (sr := 2) (j := 0) (by decide +kernel) rfl rfl rfl) ?_
                refine gm_sz (gm_p_load (pc := 144) (i := .iload_n 1) (sr := 0) (j := 1) (by decide +kernel) rfl rfl rfl) ?_
                refine gm_sz (gm_p_const (pc := 145) (i := .iconst 0) (v := gm_vi 0) (by decide +kernel) (by decide +kernel)) ?_
                refine gm_c_virt (k := 226) (ci := 11) (mj := 279) (ix := 227) (pc := 146) (as := [gm_vi 5, gm_vi 0]) (st := []) (d' := d - 1) (bc' := 0) (bs' := 0) (by decide +kernel) (by decide +kernel) (by decide +kernel) (by decide +kernel) (tR226 hE).1 (tR226 hE).2 (by decide) (by decide +kernel) (show 2 = gm_na 279 by decide +kernel) (fw_c2 fw_si fw_si) (show 3 ≤ gm_ml 279 by decide +kernel) (Nat.le_of_ble_eq_true rfl) (by omega) (Nat.zero_le _) (Nat.zero_le _) ?_
                refine sr_c279 hE ⟨by omega, by omega⟩ k0 (fun W33 kW33 => ?_)
                show gm_Wp X LX d _ _ 281 149 _ [] n K R _ Q
                refine gm_sz (gm_p_load (pc := 149) (i := .iload_n 1) (sr := 0) (j := 1) (by decide +kernel) rfl rfl rfl) ?_
                refine fw_iffd (cc := .lt) (pc := 150) (off := 7) (by decide +kernel) (by decide) ⟨by decide, by decide⟩ (by decide) ?_
                refine gm_sz (gm_p_const (pc := 153) (i := .iconst 1) (v := gm_vi 1) (by decide +kernel) (by decide +kernel)) ?_
                refine gm_sz (gm_p_goto (pc := 154) (off := 4) (by decide +kernel) (by decide)) ?_
                rw [g_p1 (Or.inr (Or.inr (Or.inr (Or.inr (Or.inr (Or.inr (Or.inl j29)))))))] at h1
                have z9 : s_pt (M 231) e b = (5, 0) := by
                  unfold s_pt s_fc
                  rw [tif_f (show ¬ tx_k (M 231) e b = 258 by have := g_kis j29; omega), tif_f j4, tif_f j9, tif_f j14, tif_f j19, tif_f j24, tif_t j29]
                rw [z9] at h1
                have hs3 := hs3 (g_isb j29)
                rw [tx_s1 j29] at hs1 hs2 hs3
                refine gm_r_int (pc := 158) (by decide +kernel) (Or.inr ⟨(by decide +kernel), Or.inr rfl⟩) (h1 _ _ _ _ kW33 rfl ⟨by omega, by omega⟩ ?_ ⟨by omega, by omega, by omega⟩)
                rw [← tx_s1 j29]
                rfl
              · show gm_Wp X LX d _ _ 281 106 _ [gm_vi 0] n K R _ Q
                have j29 : ¬ tx_is (M 231) e b wo_person := fun hh => j29 ((tr_is hb (by decide)).mpr hh)
                refine fw_iftd (cc := .eq) (pc := 106) (off := 7) (by decide +kernel) (by decide) ⟨by decide, by decide⟩ (by decide) ?_
                refine gm_sz (gm_p_load (pc := 113) (i := .aload_n 0) (sr := 2) (j := 0) (by decide +kernel) rfl rfl rfl) ?_
                refine gm_sz (gm_p_ldcs (pc := 114) (i := .ldc 241) (ix := 241) (id := 71) (by decide +kernel) (Or.inl rfl) (by decide +kernel)) ?_
                refine gm_c_virt (k := 226) (ci := 11) (mj := 250) (ix := 134) (pc := 116) (as := [gm_vo 71]) (st := []) (d' := d - 1) (bc' := 0) (bs' := 0) (by decide +kernel) (by decide +kernel) (by decide +kernel) (by decide +kernel) (tR226 hE).1 (tR226 hE).2 (by decide) (by decide +kernel) (show 1 = gm_na 250 by decide +kernel) (fw_c1 fw_so) (show 2 ≤ gm_ml 250 by decide +kernel) (Nat.le_of_ble_eq_true rfl) (by omega) (Nat.zero_le _) (Nat.zero_le _) ?_
                refine tr_c250 (by omega) hE (by decide) (show tx_o 71 = wo_age by decide +kernel) ⟨hb.1, (tx_rb (q := tx_l (M 231)) (e := e) _ b rfl hb.2).1, (tx_rb (q := tx_l (M 231)) (e := e) _ b rfl hb.2).2.1⟩ (fun j34 => ?_) (fun j34 => ?_)
                · show gm_Wp X LX d _ _ 281 119 _ [gm_vi 1] n K R _ Q
                  have j34 : tx_is (M 231) e b wo_age := (tr_is hb (by decide)).mp j34
                  have q35 : tx_g (M 231) e (tx_r (tx_l (M 231)) e b) = tx_n (M 231) e b := by rw [← tx_s1 j34]; rfl
                  have g37 : 0 ≤ tx_n (M 231) e b ∧ tx_n (M 231) e b ≤ e := by have := tx_nb (f := M 231) (b := b) hb.2; have := hb.1; omega
                  have g36 : b + 1 ≤ tx_r (tx_l (M 231)) e b := by have := (tx_sb (f := M 231) hb.2).2.2 (g_isb j34); rwa [tx_s1 j34] at this
                  refine fw_iffd (cc := .eq) (pc := 119) (off := 8) (by decide +kernel) (by decide) ⟨by decide, by decide⟩ (by decide) ?_
                  refine gm_sz (gm_p_const (pc := 122) (i := .bipush 6) (v := gm_vi 6) (by decide +kernel) (by decide +kernel)) ?_
                  refine gm_sz (gm_p_goto (pc := 124) (off := 18) (by decide +kernel) (by decide)) ?_
                  refine gm_sz (gm_p_stor (pc := 142) (i := .istore_n 1) (sr := 0) (j := 1) (by decide +kernel) rfl (show 2 ≤ _ from Nat.le_of_ble_eq_true rfl) rfl) ?_
                  refine gm_sz (gm_p_load (pc := 143) (i := .aload_n 0) (sr := 2) (j := 0) (by decide +kernel) rfl rfl rfl) ?_
                  refine gm_sz (gm_p_load (pc := 144) (i := .iload_n 1) (sr := 0) (j := 1) (by decide +kernel) rfl rfl rfl) ?_
                  refine gm_sz (gm_p_const (pc := 145) (i := .iconst 0) (v := gm_vi 0) (by decide +kernel) (by decide +kernel)) ?_
                  refine gm_c_virt (k := 226) (ci := 11) (mj := 279) (ix := 227) (pc := 146) (as := [gm_vi 6, gm_vi 0]) (st := []) (d' := d - 1) (bc' := 0) (bs' := 0) (by decide +kernel) (by decide +kernel) (by decide +kernel) (by decide +kernel) (tR226 hE).1 (tR226 hE).2 (by decide) (by decide +kernel) (show 2 = gm_na 279 by decide +kernel) (fw_c2 fw_si fw_si) (show 3 ≤ gm_ml 279 by decide +kernel) (Nat.le_of_ble_eq_true rfl) (by omega) (Nat.zero_le _) (Nat.zero_le _) ?_
                  refine sr_c279 hE ⟨by omega, by omega⟩ k0 (fun W38 kW38 => ?_)
                  show gm_Wp X LX d _ _ 281 149 _ [] n K R _ Q
                  refine gm_sz (gm_p_load (pc := 149) (i := .iload_n 1) (sr := 0) (j := 1) (by decide +kernel) rfl rfl rfl) ?_
                  refine fw_iffd (cc := .lt) (pc := 150) (off := 7) (by decide +kernel) (by decide) ⟨by decide, by decide⟩ (by decide) ?_
                  refine gm_sz (gm_p_const (pc := 153) (i := .iconst 1) (v := gm_vi 1) (by decide +kernel) (by decide +kernel)) ?_
                  refine gm_sz (gm_p_goto (pc := 154) (off := 4) (by decide +kernel) (by decide)) ?_
                  rw [g_p1 (Or.inr (Or.inr (Or.inr (Or.inr (Or.inr (Or.inr (Or.inr (Or.inl j34))))))))] at h1
                  have z9 : s_pt (M 231) e b = (6, 0) := by
                    unfold s_pt s_fc
                    rw [tif_f (show ¬ tx_k (M 231) e b = 258 by have := g_kis j34; omega), tif_f j4, tif_f j9, tif_f j14, tif_f j19, tif_f j24, tif_f j29, tif_t j34]
                  rw [z9] at h1
                  have hs3 := hs3 (g_isb j34)
                  rw [tx_s1 j34] at hs1 hs2 hs3
                  refine gm_r_int (pc := 158) (by decide +kernel) (Or.inr ⟨(by decide +kernel), Or.inr rfl⟩) (h1 _ _ _ _ kW38 rfl ⟨by omega, by omega⟩ ?_ ⟨by omega, by omega, by omega⟩)
                  rw [← tx_s1 j34]
                  rfl
                · show gm_Wp X LX d _ _ 281 119 _ [gm_vi 0] n K R _ Q
                  have j34 : ¬ tx_is (M 231) e b wo_age := fun hh => j34 ((tr_is hb (by decide)).mpr hh)
                  refine fw_iftd (cc := .eq) (pc := 119) (off := 8) (by decide +kernel) (by decide) ⟨by decide, by decide⟩ (by decide) ?_
                  refine gm_sz (gm_p_load (pc := 127) (i := .aload_n 0) (sr := 2) (j := 0) (by decide +kernel) rfl rfl rfl) ?_
                  refine gm_sz (gm_p_ldcs (pc := 128) (i := .ldc 243) (ix := 243) (id := 72) (by decide +kernel) (Or.inl rfl) (by decide +kernel)) ?_
                  refine gm_c_virt (k := 226) (ci := 11) (mj := 250) (ix := 134) (pc := 130) (as := [gm_vo 72]) (st := []) (d' := d - 1) (bc' := 0) (bs' := 0) (by decide +kernel) (by decide +kernel) (by decide +kernel) (by decide +kernel) (tR226 hE).1 (tR226 hE).2 (by decide) (by decide +kernel) (show 1 = gm_na 250 by decide +kernel) (fw_c1 fw_so) (show 2 ≤ gm_ml 250 by decide +kernel) (Nat.le_of_ble_eq_true rfl) (by omega) (Nat.zero_le _) (Nat.zero_le _) ?_
                  refine tr_c250 (by omega) hE (by decide) (show tx_o 72 = wo_deep by decide +kernel) ⟨hb.1, (tx_rb (q := tx_l (M 231)) (e := e) _ b rfl hb.2).1, (tx_rb (q := tx_l (M 231)) (e := e) _ b rfl hb.2).2.1⟩ (fun j39 => ?_) (fun j39 => ?_)
                  · show gm_Wp X LX d _ _ 281 133 _ [gm_vi 1] n K R _ Q
                    have j39 : tx_is (M 231) e b wo_deep := (tr_is hb (by decide)).mp j39
                    have q40 : tx_g (M 231) e (tx_r (tx_l (M 231)) e b) = tx_n (M 231) e b := by rw [← tx_s1 j39]; rfl
                    have g42 : 0 ≤ tx_n (M 231) e b ∧ tx_n (M 231) e b ≤ e := by have := tx_nb (f := M 231) (b := b) hb.2; have := hb.1; omega
                    have g41 : b + 1 ≤ tx_r (tx_l (M 231)) e b := by have := (tx_sb (f := M 231) hb.2).2.2 (g_isb j39); rwa [tx_s1 j39] at this
                    refine fw_iffd (cc := .eq) (pc := 133) (off := 8) (by decide +kernel) (by decide) ⟨by decide, by decide⟩ (by decide) ?_
                    refine gm_sz (gm_p_const (pc := 136) (i := .bipush 7) (v := gm_vi 7) (by decide +kernel) (by decide +kernel)) ?_
                    refine gm_sz (gm_p_goto (pc := 138) (off := 4) (by decide +kernel) (by decide)) ?_
                    refine gm_sz (gm_p_stor (pc := 142) (i := .istore_n 1) (sr := 0) (j := 1) (by decide +kernel) rfl (show 2 ≤ _ from Nat.le_of_ble_eq_true rfl) rfl) ?_
                    refine gm_sz (gm_p_load (pc := 143) (i := .aload_n 0) (sr := 2) (j := 0) (by decide +kernel) rfl rfl rfl) ?_
                    refine gm_sz (gm_p_load (pc := 144) (i := .iload_n 1) (sr := 0) (j := 1) (by decide +kernel) rfl rfl rfl) ?_
                    refine gm_sz (gm_p_const (pc := 145) (i := .iconst 0) (v := gm_vi 0) (by decide +kernel) (by decide +kernel)) ?_
                    refine gm_c_virt (k := 226) (ci := 11) (mj := 279) (ix := 227) (pc := 146) (as := [gm_vi 7, gm_vi 0]) (st := []) (d' := d - 1) (bc' := 0) (bs' := 0) (by decide +kernel) (by decide +kernel) (by decide +kernel) (by decide +kernel) (tR226 hE).1 (tR226 hE).2 (by decide) (by decide +kernel) (show 2 = gm_na 279 by decide +kernel) (fw_c2 fw_si fw_si) (show 3 ≤ gm_ml 279 by decide +kernel) (Nat.le_of_ble_eq_true rfl) (by omega) (Nat.zero_le _) (Nat.zero_le _) ?_
                    refine sr_c279 hE ⟨by omega, by omega⟩ k0 (fun W43 kW43 => ?_)
                    show gm_Wp X LX d _ _ 281 149 _ [] n K R _ Q
                    refine gm_sz (gm_p_load (pc := 149) (i := .iload_n 1) (sr := 0) (j := 1) (by decide +kernel) rfl rfl rfl) ?_
                    refine fw_iffd (cc := .lt) (pc := 150) (off := 7) (by decide +kernel) (by decide) ⟨by decide, by decide⟩ (by decide) ?_
                    refine gm_sz (gm_p_const (pc := 153) (i := .iconst 1) (v := gm_vi 1) (by decide +kernel) (by decide +kernel)) ?_
                    refine gm_sz (gm_p_goto (pc := 154) (off := 4) (by decide +kernel) (by decide)) ?_
                    rw [g_p1 (Or.inr (Or.inr (Or.inr (Or.inr (Or.inr (Or.inr (Or.inr (Or.inr (j39)))))))))] at h1
                    have z9 : s_pt (M 231) e b = (7, 0) := by
                      unfold s_pt s_fc
                      rw [tif_f (show ¬ tx_k (M 231) e b = 258 by have := g_kis j39; omega), tif_f j4, tif_f j9, tif_f j14, tif_f j19, tif_f j24, tif_f j29, tif_f j34]
                    rw [z9] at h1
                    have hs3 := hs3 (g_isb j39)
                    rw [tx_s1 j39] at hs1 hs2 hs3
                    refine gm_r_int (pc := 158) (by decide +kernel) (Or.inr ⟨(by decide +kernel), Or.inr rfl⟩) (h1 _ _ _ _ kW43 rfl ⟨by omega, by omega⟩ ?_ ⟨by omega, by omega, by omega⟩)
                    rw [← tx_s1 j39]
                    rfl
                  · show gm_Wp X LX d _ _ 281 133 _ [gm_vi 0] n K R _ Q
                    have j39 : ¬ tx_is (M 231) e b wo_deep := fun hh => j39 ((tr_is hb (by decide)).mpr hh)
                    refine fw_iftd (cc := .eq) (pc := 133) (off := 8) (by decide +kernel) (by decide) ⟨by decide, by decide⟩ (by decide) ?_
                    refine gm_sz (gm_p_const (pc := 141) (i := .iconst (-1)) (v := gm_vi (-1)) (by decide +kernel) (by decide +kernel)) ?_
                    refine gm_sz (gm_p_stor (pc := 142) (i := .istore_n 1) (sr := 0) (j := 1) (by decide +kernel) rfl (show 2 ≤ _ from Nat.le_of_ble_eq_true rfl) rfl) ?_
                    refine gm_sz (gm_p_load (pc := 143) (i := .aload_n 0) (sr := 2) (j := 0) (by decide +kernel) rfl rfl rfl) ?_
                    refine gm_sz (gm_p_load (pc := 144) (i := .iload_n 1) (sr := 0) (j := 1) (by decide +kernel) rfl rfl rfl) ?_
                    refine gm_sz (gm_p_const (pc := 145) (i := .iconst 0) (v := gm_vi 0) (by decide +kernel) (by decide +kernel)) ?_
                    refine gm_c_virt (k := 226) (ci := 11) (mj := 279) (ix := 227) (pc := 146) (as := [gm_vi (-1), gm_vi 0]) (st := []) (d' := d - 1) (bc' := 0) (bs' := 0) (by decide +kernel) (by decide +kernel) (by decide +kernel) (by decide +kernel) (tR226 hE).1 (tR226 hE).2 (by decide) (by decide +kernel) (show 2 = gm_na 279 by decide +kernel) (fw_c2 fw_si fw_si) (show 3 ≤ gm_ml 279 by decide +kernel) (Nat.le_of_ble_eq_true rfl) (by omega) (Nat.zero_le _) (Nat.zero_le _) ?_
                    refine sr_c279 hE ⟨by omega, by omega⟩ k0 (fun W44 kW44 => ?_)
                    show gm_Wp X LX d _ _ 281 149 _ [] n K R _ Q
                    refine gm_sz (gm_p_load (pc := 149) (i := .iload_n 1) (sr := 0) (j := 1) (by decide +kernel) rfl rfl rfl) ?_
                    refine fw_iftd (cc := .lt) (pc := 150) (off := 7) (by decide +kernel) (by decide) ⟨by decide, by decide⟩ (by decide) ?_
                    refine gm_sz (gm_p_const (pc := 157) (i := .iconst 0) (v := gm_vi 0) (by decide +kernel) (by decide +kernel)) ?_
                    have np : ¬ g_pt (M 231) e b := fun hh => by
                      rcases hh with hh | hh
                      · have := tx_kne (f := M 231) (e := e) (b := b) (by omega)
                        by_cases h8 : 97 ≤ M 231 b ∧ M 231 b ≤ 122
                        · have := (tx_k1 (m := 0) this h8).1
                          omega
                        · have := tx_rf (q := tx_l (M 231)) (e := e) (p := b) (fun h h2 => h8 (of_decide_eq_true h2))
                          omega
                      · rcases hh with hh | hh | hh | hh | hh | hh | hh | hh <;> contradiction
                    rw [g_p0 np] at h0
                    exact gm_r_int (pc := 158) (by decide +kernel) (Or.inr ⟨(by decide +kernel), Or.inl rfl⟩) (h0 _ _ _ _ (kW44.2.1) (fun h => by cases h))
  · have j3 : (tx_r (tx_l (M 231)) e b) = b := Classical.not_not.mp j3
    have hgb : tx_g (M 231) e b = b := by rw [← hg]; exact tx_gi hp.2
    rw [show tx_r (tx_l (M 231)) e b = b by omega]
    refine gm_sz (gm_p_load (pc := 15) (i := .aload_n 0) (sr := 2) (j := 0) (by decide +kernel) rfl rfl rfl) ?_
    refine gm_sz (gm_p_const (pc := 16) (i := .iconst 0) (v := gm_vi 0) (by decide +kernel) (by decide +kernel)) ?_
    refine gm_sz (gm_p_const (pc := 17) (i := .sipush 999) (v := gm_vi 999) (by decide +kernel) (by decide +kernel)) ?_
    refine gm_sz (gm_p_const (pc := 20) (i := .iconst 3) (v := gm_vi 3) (by decide +kernel) (by decide +kernel)) ?_
    refine gm_c_virt (k := 226) (ci := 11) (mj := 256) (ix := 138) (pc := 21) (as := [gm_vi 0, gm_vi 999, gm_vi 3]) (st := []) (d' := d - 1) (bc' := 0) (bs' := 0) (by decide +kernel) (by decide +kernel) (by decide +kernel) (by decide +kernel) (tR226 hE).1 (tR226 hE).2 (by decide) (by decide +kernel) (show 3 = gm_na 256 by decide +kernel) (fw_c3 fw_si fw_si fw_si) (show 4 ≤ gm_ml 256 by decide +kernel) (Nat.le_of_ble_eq_true rfl) (by omega) (Nat.zero_le _) (Nat.zero_le _) ?_
    refine tr_c256 (by omega) hE (by decide) (by decide) ⟨by decide, by decide⟩ hb hgb (fun j45 => ?_) (fun j45 p46 => ?_)
    · show gm_Wp X LX d _ _ 281 24 _ [gm_vi (tx_v (M 231) e 3 b)] n K R _ Q
      have j45 : tx_k (M 231) e b = 258 ∧ 0 ≤ tx_v (M 231) e 3 b ∧ tx_v (M 231) e 3 b ≤ 999 := j45
      have g47 : 0 ≤ tx_s (M 231) e b ∧ tx_s (M 231) e b ≤ e := by have := tx_sb (f := M 231) hb.2; have := hb.1; omega
      have g48 : 0 ≤ tx_n (M 231) e b ∧ tx_n (M 231) e b ≤ e := by have := tx_gb (f := M 231) g47.2; have := g47.1; unfold tx_n; omega
      have j45s := (tx_sb (f := M 231) hb.2).2.2 (tx_kne (f := M 231) (by omega))
      have j45p := (tx_gb (f := M 231) hb.2).1
      rw [hgb] at j45p
      have j45v := tx_vb (f := M 231) (e := e) (m := 3) (b := b) (by decide)
      refine gm_sz (gm_p_stor (pc := 24) (i := .istore_n 1) (sr := 0) (j := 1) (by decide +kernel) rfl (show 2 ≤ _ from Nat.le_of_ble_eq_true rfl) rfl) ?_
      refine gm_sz (gm_p_load (pc := 25) (i := .aload_n 0) (sr := 2) (j := 0) (by decide +kernel) rfl rfl rfl) ?_
      refine gm_sz (gm_p_const (pc := 26) (i := .bipush 10) (v := gm_vi 10) (by decide +kernel) (by decide +kernel)) ?_
      refine gm_sz (gm_p_load (pc := 28) (i := .iload_n 1) (sr := 0) (j := 1) (by decide +kernel) rfl rfl rfl) ?_
      refine gm_c_virt (k := 226) (ci := 11) (mj := 279) (ix := 227) (pc := 29) (as := [gm_vi 10, gm_vi (tx_v (M 231) e 3 b)]) (st := []) (d' := d - 1) (bc' := 0) (bs' := 0) (by decide +kernel) (by decide +kernel) (by decide +kernel) (by decide +kernel) (tR226 hE).1 (tR226 hE).2 (by decide) (by decide +kernel) (show 2 = gm_na 279 by decide +kernel) (fw_c2 fw_si fw_si) (show 3 ≤ gm_ml 279 by decide +kernel) (Nat.le_of_ble_eq_true rfl) (by omega) (Nat.zero_le _) (Nat.zero_le _) ?_
      refine sr_c279 hE ⟨by omega, by omega⟩ k0 (fun W49 kW49 => ?_)
      show gm_Wp X LX d _ _ 281 32 _ [] n K R _ Q
      refine gm_sz (gm_p_goto (pc := 32) (off := 117) (by decide +kernel) (by decide)) ?_
      refine gm_sz (gm_p_load (pc := 149) (i := .iload_n 1) (sr := 0) (j := 1) (by decide +kernel) rfl rfl rfl) ?_
      refine fw_iff (cc := .lt) (pc := 150) (off := 7) (by decide +kernel) (by decide) ⟨by omega, by omega⟩ (show ¬ (tx_v (M 231) e 3 b) < 0 by omega) ?_
      refine gm_sz (gm_p_const (pc := 153) (i := .iconst 1) (v := gm_vi 1) (by decide +kernel) (by decide +kernel)) ?_
      refine gm_sz (gm_p_goto (pc := 154) (off := 4) (by decide +kernel) (by decide)) ?_
      rw [g_p1 (Or.inl ⟨by omega, by omega⟩)] at h1
      rw [show s_pt (M 231) e b = (10, tx_v (M 231) e 3 b) from tif_t j45.1] at h1
      have hs3 := hs3 (tx_kne (f := M 231) (by omega))
      exact gm_r_int (pc := 158) (by decide +kernel) (Or.inr ⟨(by decide +kernel), Or.inr rfl⟩) (h1 _ _ _ _ kW49 rfl ⟨by omega, by omega⟩ rfl ⟨by omega, by omega, by omega⟩)
    · show gm_Wp X LX d _ _ 281 24 _ [gm_vi (-1)] n K R _ Q
      have j45 : ¬ (tx_k (M 231) e b = 258 ∧ 0 ≤ tx_v (M 231) e 3 b ∧ tx_v (M 231) e 3 b ≤ 999) := j45
      refine gm_sz (gm_p_stor (pc := 24) (i := .istore_n 1) (sr := 0) (j := 1) (by decide +kernel) rfl (show 2 ≤ _ from Nat.le_of_ble_eq_true rfl) rfl) ?_
      refine gm_sz (gm_p_load (pc := 25) (i := .aload_n 0) (sr := 2) (j := 0) (by decide +kernel) rfl rfl rfl) ?_
      refine gm_sz (gm_p_const (pc := 26) (i := .bipush 10) (v := gm_vi 10) (by decide +kernel) (by decide +kernel)) ?_
      refine gm_sz (gm_p_load (pc := 28) (i := .iload_n 1) (sr := 0) (j := 1) (by decide +kernel) rfl rfl rfl) ?_
      refine gm_c_virt (k := 226) (ci := 11) (mj := 279) (ix := 227) (pc := 29) (as := [gm_vi 10, gm_vi (-1)]) (st := []) (d' := d - 1) (bc' := 0) (bs' := 0) (by decide +kernel) (by decide +kernel) (by decide +kernel) (by decide +kernel) (tR226 hE).1 (tR226 hE).2 (by decide) (by decide +kernel) (show 2 = gm_na 279 by decide +kernel) (fw_c2 fw_si fw_si) (show 3 ≤ gm_ml 279 by decide +kernel) (Nat.le_of_ble_eq_true rfl) (by omega) (Nat.zero_le _) (Nat.zero_le _) ?_
      refine sr_c279 hE ⟨by omega, by omega⟩ k0 (fun W50 kW50 => ?_)
      show gm_Wp X LX d _ _ 281 32 _ [] n K R _ Q
      refine gm_sz (gm_p_goto (pc := 32) (off := 117) (by decide +kernel) (by decide)) ?_
      refine gm_sz (gm_p_load (pc := 149) (i := .iload_n 1) (sr := 0) (j := 1) (by decide +kernel) rfl rfl rfl) ?_
      refine fw_iftd (cc := .lt) (pc := 150) (off := 7) (by decide +kernel) (by decide) ⟨by decide, by decide⟩ (by decide) ?_
      refine gm_sz (gm_p_const (pc := 157) (i := .iconst 0) (v := gm_vi 0) (by decide +kernel) (by decide +kernel)) ?_
      have np : ¬ g_pt (M 231) e b := fun hh => by
        rcases hh with hh | hh
        · have := tx_vb (f := M 231) (e := e) (m := 3) (b := b) (by decide)
          have := tx_v9 (f := M 231) (e := e) (b := b)
          omega
        · have h9 := g_fk hh
          have h8 := tx_kne (f := M 231) (e := e) (b := b) (by omega)
          by_cases h7 : 97 ≤ M 231 b ∧ M 231 b ≤ 122
          · have := tx_rs (q := tx_l (M 231)) (e := e) h8 (decide_eq_true h7)
            omega
          · by_cases h6 : 48 ≤ M 231 b ∧ M 231 b ≤ 57
            · have := (tx_k2 (m := 0) h8 h6).1
              omega
            · have := (tx_k3 (f := M 231) (m := 0) h8 h7 h6).1
              omega
      rw [g_p0 np] at h0
      exact gm_r_int (pc := 158) (by decide +kernel) (Or.inr ⟨(by decide +kernel), Or.inl rfl⟩) (h0 _ _ _ _ (kW50.2.1) (fun h => by cases h))

/-- what steps a sum lays down behind its first part, a row of ANDs behind its first, a row of ORs -/
noncomputable def e_sm (f : Int → Int) (e : Int) (t : Nat) (c : Int) : List (Int × Int) := tif (tx_k f e c = 43) (rps (s_sum f e t (tx_n f e c))) []
noncomputable def e_am (f : Int → Int) (e : Int) (A : Int → Bool × Int) (SA : Int → List lst) (t : Nat) (c : Int) : List (Int × Int) := tif (tx_is f e c wo_and) (srds (s_all f e A SA t false (tx_n f e c))) []
noncomputable def e_cm (f : Int → Int) (e : Int) (A : Int → Bool × Int) (SA : Int → List lst) (t : Nat) (c : Int) : List (Int × Int) := tif (tx_is f e c wo_or) (srds (s_cnd f e A SA t false (tx_n f e c))) []
section EM
variable {f : Int → Int} {A : Int → Bool × Int} {SA : Int → List lst} {t : Nat} {c : Int}
theorem e_sm0 (h : ¬ tx_k f e c = 43) : e_sm f e t c = [] := tif_f h
theorem e_sm2 (h : tx_k f e c = 43) : e_sm f e (t + 1) c = s_pt f e (tx_n f e c) :: (11, 0) :: e_sm f e t (tx_n f e (tx_n f e c)) := by
  unfold e_sm
  rw [tif_t h]
  by_cases h2 : tx_k f e (tx_n f e (tx_n f e c)) = 43
  · rw [s_sum2 h2, tif_t h2]
    rfl
  · rw [s_sum1 h2, tif_f h2]
    rfl
theorem e_sme : rpt (s_sum f e (t + 1) b) = s_pt f e b :: e_sm f e t (tx_n f e b) := by
  unfold e_sm
  by_cases h2 : tx_k f e (tx_n f e b) = 43
  · rw [s_sum2 h2, tif_t h2]
    rfl
  · rw [s_sum1 h2, tif_f h2]
    rfl
theorem e_am0 (h : ¬ tx_is f e c wo_and) : e_am f e A SA t c = [] := tif_f h
theorem e_am2 (h : tx_is f e c wo_and) : e_am f e A SA (t + 1) c = srds (SA (tx_n f e c)) ++ (15, 0) :: e_am f e A SA t (A (tx_n f e c)).2 := by
  unfold e_am
  rw [tif_t h]
  by_cases h2 : tx_is f e (A (tx_n f e c)).2 wo_and
  · rw [s_l2 h2, tif_t h2, if_neg (by decide), srds_app, srds_app, srds_1 (Or.inr (Or.inl rfl))]
    rfl
  · rw [s_l1 h2, tif_f h2, if_neg (by decide), srds_app, srds_1 (Or.inr (Or.inl rfl))]
theorem e_ame : srds (s_all f e A SA (t + 1) true b) = srds (SA b) ++ e_am f e A SA t (A b).2 := by
  unfold e_am
  by_cases h2 : tx_is f e (A b).2 wo_and
  · rw [s_l2 h2, tif_t h2, if_pos rfl, srds_app]
    rfl
  · rw [s_l1 h2, tif_f h2, if_pos rfl, srds_app]
    rfl
theorem e_cm0 (h : ¬ tx_is f e c wo_or) : e_cm f e A SA t c = [] := tif_f h
theorem e_cm2 (h : tx_is f e c wo_or) : e_cm f e A SA (t + 1) c = srds (s_all f e A SA 400 true (tx_n f e c)) ++ (16, 0) :: e_cm f e A SA t (g_all f e A 400 (tx_n f e c)).2 := by
  unfold e_cm
  rw [tif_t h]
  by_cases h2 : tx_is f e (g_all f e A 400 (tx_n f e c)).2 wo_or
  · rw [s_d2 h2, tif_t h2, if_neg (by decide), srds_app, srds_app, srds_1 (Or.inr (Or.inr (Or.inl rfl)))]
    rfl
  · rw [s_d1 h2, tif_f h2, if_neg (by decide), srds_app, srds_1 (Or.inr (Or.inr (Or.inl rfl)))]
theorem e_cme : srds (s_cnd f e A SA (t + 1) true b) = srds (s_all f e A SA 400 true b) ++ e_cm f e A SA t (g_all f e A 400 b).2 := by
  unfold e_cm
  by_cases h2 : tx_is f e (g_all f e A 400 b).2 wo_or
  · rw [s_d2 h2, tif_t h2, if_pos rfl, srds_app]
    rfl
  · rw [s_d1 h2, tif_f h2, if_pos rfl, srds_app]
    rfl
end EM
theorem sr_s280 (hd : 9 ≤ d) (hE : tR n K R M e) : ∀ (t : Nat) (pt c bg st : Int) (W : Int → Int) (L : List (Int × Int)) (Q : gm_Q), e - c < 2 * (t : Int) → 0 ≤ pt ∧ pt ≤ e → tx_g (M 231) e pt = c → 0 ≤ st ∧ st + 1 ≤ pt → RL L W0 st W → (∀ p2 bg2 st2 W2, RL (L ++ e_sm (M 231) e t c) W0 st2 W2 → (g_sm (M 231) e t c).1 = true → 0 ≤ p2 ∧ p2 ≤ e → tx_g (M 231) e p2 = (g_sm (M 231) e t c).2 → 0 ≤ st2 ∧ st2 - st ≤ p2 - pt ∧ pt ≤ p2 → Q (.inl (some (gm_vi 1))) n K R (rm M p2 bg2 dp st2 W2)) → (∀ p2 dp2 st2 W2, (∀ j, j < 1293 → W2 j = W0 j) → ¬ (g_sm (M 231) e t c).1 = true → Q (.inl (some (gm_vi 0))) n K R (rm M p2 (g_sm (M 231) e t c).2 dp2 st2 W2)) → gm_Wp X LX d bc bs 280 9 [some (gm_vr 226)] [] n K R (rm M pt bg dp st W) Q := by
  obtain ⟨-, he0, he4⟩ := tRe hE
  intro t
  induction t with
  | zero =>
    intro pt c bg st W L Q ht hp hg hst k0 h1 h0
    obtain ⟨hg1, hg2, -⟩ := tx_gb (f := M 231) hp.2
    rw [hg] at hg1 hg2
    exact absurd ht (by omega)
  | succ t ih =>
    intro pt c bg st W L Q ht hp hg hst k0 h1 h0
    obtain ⟨hg1, hg2, -⟩ := tx_gb (f := M 231) hp.2
    rw [hg] at hg1 hg2
    have hb : 0 ≤ c ∧ c ≤ e := ⟨by omega, hg2⟩
    obtain ⟨hn1, hn2, hn3⟩ := tx_nb (f := M 231) hb.2
    refine gm_sz (gm_p_load (pc := 9) (i := .aload_n 0) (sr := 2) (j := 0) (by decide +kernel) rfl rfl rfl) ?_
    refine gm_sz (gm_p_const (pc := 10) (i := .bipush 43) (v := gm_vi 43) (by decide +kernel) (by decide +kernel)) ?_
    refine gm_c_virt (k := 226) (ci := 11) (mj := 278) (ix := 248) (pc := 12) (as := [gm_vi 43]) (st := []) (d' := d - 1) (bc' := 0) (bs' := 0) (by decide +kernel) (by decide +kernel) (by decide +kernel) (by decide +kernel) (tR226 hE).1 (tR226 hE).2 (by decide) (by decide +kernel) (show 1 = gm_na 278 by decide +kernel) (fw_c1 fw_si) (show 2 ≤ gm_ml 278 by decide +kernel) (Nat.le_of_ble_eq_true rfl) (by omega) (Nat.zero_le _) (Nat.zero_le _) ?_
    refine tr_c278 (by omega) hE (by decide) hp hg (fun j1 => ?_) (fun j1 => ?_)
    · show gm_Wp X LX d _ _ 280 15 _ [gm_vi 1] n K R _ Q
      have j1 : tx_k (M 231) e c = 43 := j1
      have g2 : 0 ≤ tx_s (M 231) e c ∧ tx_s (M 231) e c ≤ e := by have := tx_sb (f := M 231) hb.2; have := hb.1; omega
      have g3 : 0 ≤ tx_n (M 231) e c ∧ tx_n (M 231) e c ≤ e := by have := tx_gb (f := M 231) g2.2; have := g2.1; unfold tx_n; omega
      have j1s := (tx_sb (f := M 231) hb.2).2.2 (tx_kne (f := M 231) (by omega))
      have j1p := (tx_gb (f := M 231) hp.2).1
      rw [hg] at j1p
      refine fw_iffd (cc := .eq) (pc := 15) (off := 22) (by decide +kernel) (by decide) ⟨by decide, by decide⟩ (by decide) ?_
      refine gm_sz (gm_p_load (pc := 18) (i := .aload_n 0) (sr := 2) (j := 0) (by decide +kernel) rfl rfl rfl) ?_
      refine gm_c_virt (k := 226) (ci := 11) (mj := 281) (ix := 245) (pc := 19) (as := []) (st := []) (d' := d - 1) (bc' := 0) (bs' := 0) (by decide +kernel) (by decide +kernel) (by decide +kernel) (by decide +kernel) (tR226 hE).1 (tR226 hE).2 (by decide) (by decide +kernel) (show 0 = gm_na 281 by decide +kernel) fw_c0 (show 1 ≤ gm_ml 281 by decide +kernel) (Nat.le_of_ble_eq_true rfl) (by omega) (Nat.zero_le _) (Nat.zero_le _) ?_
      refine sr_c281 hE _ _ _ _ _ _ _ _ _ _ (by omega) g2 rfl ⟨by omega, by omega⟩ k0 (fun p5 x6 s7 W8 kW8 j9 q10b q10 t12 => ?_) (fun p5 x14 s7 W8 fW8 j9 => ?_)
      · show gm_Wp X LX d _ _ 280 22 _ [gm_vi 1] n K R _ Q
        have j9 : (g_par (M 231) e (tx_n (M 231) e c)).1 = true := j9
        have q10 : tx_g (M 231) e p5 = (g_par (M 231) e (tx_n (M 231) e c)).2 := q10
        have g11 : 0 ≤ (g_par (M 231) e (tx_n (M 231) e c)).2 ∧ (g_par (M 231) e (tx_n (M 231) e c)).2 ≤ e := by have := g_par_in (f := M 231) (tx_n (M 231) e c) g3.1 g3.2; have := g3.1; omega
        have i13 := (g_par_in (f := M 231) (tx_n (M 231) e c) g3.1 g3.2)
        have i13 := i13.2.2 j9
        refine fw_iftd (cc := .ne) (pc := 22) (off := 5) (by decide +kernel) (by decide) ⟨by decide, by decide⟩ (by decide) ?_
        refine gm_sz (gm_p_load (pc := 27) (i := .aload_n 0) (sr := 2) (j := 0) (by decide +kernel) rfl rfl rfl) ?_
        refine gm_sz (gm_p_const (pc := 28) (i := .bipush 11) (v := gm_vi 11) (by decide +kernel) (by decide +kernel)) ?_
        refine gm_sz (gm_p_const (pc := 30) (i := .iconst 0) (v := gm_vi 0) (by decide +kernel) (by decide +kernel)) ?_
        refine gm_c_virt (k := 226) (ci := 11) (mj := 279) (ix := 227) (pc := 31) (as := [gm_vi 11, gm_vi 0]) (st := []) (d' := d - 1) (bc' := 0) (bs' := 0) (by decide +kernel) (by decide +kernel) (by decide +kernel) (by decide +kernel) (tR226 hE).1 (tR226 hE).2 (by decide) (by decide +kernel) (show 2 = gm_na 279 by decide +kernel) (fw_c2 fw_si fw_si) (show 3 ≤ gm_ml 279 by decide +kernel) (Nat.le_of_ble_eq_true rfl) (by omega) (Nat.zero_le _) (Nat.zero_le _) ?_
        refine sr_c279 hE ⟨by omega, by omega⟩ kW8 (fun W15 kW15 => ?_)
        show gm_Wp X LX d _ _ 280 34 _ [] n K R _ Q
        refine gm_sz (gm_p_goto (pc := 34) (off := (-25)) (by decide +kernel) (by decide)) ?_
        have yp : g_pt (M 231) e (tx_n (M 231) e c) := Classical.byContradiction (fun hh => by rw [g_p0 hh] at j9; cases j9)
        rw [g_sm2 j1 yp] at h1 h0
        rw [e_sm2 j1, List.append_cons, List.append_cons] at h1
        rw [g_p1 yp] at q10
        have hn4 := tx_nb (f := M 231) hn2
        have hn5 := hn4.2.2 (g_pk yp)
        refine ih _ _ _ _ _ _ _ (by omega) q10b q10 ⟨by omega, by omega⟩ kW15 (fun p2 bg2 st2 W2 r0 r1 r2 r3 r4 => h1 p2 bg2 st2 W2 r0 r1 r2 r3 ⟨by omega, by omega, by omega⟩) h0
      · show gm_Wp X LX d _ _ 280 22 _ [gm_vi 0] n K R _ Q
        have j9 : ¬ (g_par (M 231) e (tx_n (M 231) e c)).1 = true := j9
        have g11 : 0 ≤ (g_par (M 231) e (tx_n (M 231) e c)).2 ∧ (g_par (M 231) e (tx_n (M 231) e c)).2 ≤ e := by have := g_par_in (f := M 231) (tx_n (M 231) e c) g3.1 g3.2; have := g3.1; omega
        refine fw_iffd (cc := .ne) (pc := 22) (off := 5) (by decide +kernel) (by decide) ⟨by decide, by decide⟩ (by decide) ?_
        refine gm_sz (gm_p_const (pc := 25) (i := .iconst 0) (v := gm_vi 0) (by decide +kernel) (by decide +kernel)) ?_
        have np : ¬ g_pt (M 231) e (tx_n (M 231) e c) := fun hh => j9 (by rw [g_p1 hh])
        rw [g_sm1 j1 np] at h0
        rw [show g_par (M 231) e (tx_g (M 231) e (tx_s (M 231) e c)) = (false, tx_n (M 231) e c) from g_p0 np]
        exact gm_r_int (pc := 26) (by decide +kernel) (Or.inr ⟨(by decide +kernel), Or.inl rfl⟩) (h0 _ _ _ _ (fW8) (fun h => by cases h))
    · show gm_Wp X LX d _ _ 280 15 _ [gm_vi 0] n K R _ Q
      have j1 : ¬ tx_k (M 231) e c = 43 := j1
      have q4 : tx_g (M 231) e c = c := by rw [← hg]; exact tx_gi hp.2
      refine fw_iftd (cc := .eq) (pc := 15) (off := 22) (by decide +kernel) (by decide) ⟨by decide, by decide⟩ (by decide) ?_
      refine gm_sz (gm_p_const (pc := 37) (i := .iconst 1) (v := gm_vi 1) (by decide +kernel) (by decide +kernel)) ?_
      rw [g_sm0 j1, e_sm0 j1, List.append_nil] at h1
      exact gm_r_int (pc := 38) (by decide +kernel) (Or.inr ⟨(by decide +kernel), Or.inr rfl⟩) (h1 _ _ _ _ k0 rfl hb q4 ⟨by omega, by omega, by omega⟩)

theorem sr_c280 (hE : tR n K R M e) : cR2 X LX n K R M e dp W0 280 (g_sum (M 231) e 400) (fun b => rpt (s_sum (M 231) e 400 b)) 9 := by
  obtain ⟨-, he0, he4⟩ := tRe hE
  intro d bc bs pt b bg st W L Q hd hp hg hst k0 h1 h0
  have h1 : ∀ p2 bg2 st2 W2, RL (L ++ rpt (s_sum (M 231) e 400 b)) W0 st2 W2 → (g_sum (M 231) e 400 b).1 = true → 0 ≤ p2 ∧ p2 ≤ e → tx_g (M 231) e p2 = (g_sum (M 231) e 400 b).2 → 0 ≤ st2 ∧ st2 - st ≤ p2 - pt ∧ pt ≤ p2 → Q (.inl (some (gm_vi 1))) n K R (rm M p2 bg2 dp st2 W2) := h1
  obtain ⟨hg1, hg2, -⟩ := tx_gb (f := M 231) hp.2
  rw [hg] at hg1 hg2
  have hb : 0 ≤ b ∧ b ≤ e := ⟨by omega, hg2⟩
  refine gm_sz (gm_p_load (pc := 0) (i := .aload_n 0) (sr := 2) (j := 0) (by decide +kernel) rfl rfl rfl) ?_
  refine gm_c_virt (k := 226) (ci := 11) (mj := 281) (ix := 245) (pc := 1) (as := []) (st := []) (d' := d - 1) (bc' := 0) (bs' := 0) (by decide +kernel) (by decide +kernel) (by decide +kernel) (by decide +kernel) (tR226 hE).1 (tR226 hE).2 (by decide) (by decide +kernel) (show 0 = gm_na 281 by decide +kernel) fw_c0 (show 1 ≤ gm_ml 281 by decide +kernel) (Nat.le_of_ble_eq_true rfl) (by omega) (Nat.zero_le _) (Nat.zero_le _) ?_
  refine sr_c281 hE _ _ _ _ _ _ _ _ _ _ (by omega) hp hg ⟨by omega, by omega⟩ k0 (fun p1 x2 s3 W4 kW4 j5 q6b q6 t8 => ?_) (fun p1 x10 s3 W4 fW4 j5 => ?_)
  · show gm_Wp X LX d _ _ 280 4 _ [gm_vi 1] n K R _ Q
    have j5 : (g_par (M 231) e b).1 = true := j5
    have q6 : tx_g (M 231) e p1 = (g_par (M 231) e b).2 := q6
    have g7 : 0 ≤ (g_par (M 231) e b).2 ∧ (g_par (M 231) e b).2 ≤ e := by have := g_par_in (f := M 231) b hb.1 hb.2; have := hb.1; omega
    have i9 := (g_par_in (f := M 231) b hb.1 hb.2)
    have i9 := i9.2.2 j5
    refine fw_iftd (cc := .ne) (pc := 4) (off := 5) (by decide +kernel) (by decide) ⟨by decide, by decide⟩ (by decide) ?_
    have yp : g_pt (M 231) e b := Classical.byContradiction (fun hh => by rw [g_p0 hh] at j5; cases j5)
    rw [g_sme (t := 399) yp] at h1 h0
    rw [e_sme (t := 399), List.append_cons] at h1
    rw [g_p1 yp] at q6
    have hn4 := tx_nb (f := M 231) hb.2
    exact sr_s280 hd hE 399 _ _ _ _ _ _ _ (by omega) q6b q6 ⟨by omega, by omega⟩ kW4 (fun p2 bg2 st2 W2 r0 r1 r2 r3 r4 => h1 p2 bg2 st2 W2 r0 r1 r2 r3 ⟨by omega, by omega, by omega⟩) h0
  · show gm_Wp X LX d _ _ 280 4 _ [gm_vi 0] n K R _ Q
    have j5 : ¬ (g_par (M 231) e b).1 = true := j5
    have g7 : 0 ≤ (g_par (M 231) e b).2 ∧ (g_par (M 231) e b).2 ≤ e := by have := g_par_in (f := M 231) b hb.1 hb.2; have := hb.1; omega
    refine fw_iffd (cc := .ne) (pc := 4) (off := 5) (by decide +kernel) (by decide) ⟨by decide, by decide⟩ (by decide) ?_
    refine gm_sz (gm_p_const (pc := 7) (i := .iconst 0) (v := gm_vi 0) (by decide +kernel) (by decide +kernel)) ?_
    have np : ¬ g_pt (M 231) e b := fun hh => j5 (by rw [g_p1 hh])
    rw [g_sum0 (t := 399) np] at h0
    rw [g_p0 np]
    exact gm_r_int (pc := 8) (by decide +kernel) (Or.inr ⟨(by decide +kernel), Or.inl rfl⟩) (h0 _ _ _ _ (fW4) (fun h => by cases h))

theorem sr_c277 {A A2 : Int → Bool × Int} {SA SC : Int → List lst} {ok : Prop} {dA dC dn : Nat} (hE : tR n K R M e) (hdep : 0 ≤ dp ∧ dp ≤ 6) (hok6 : ok ↔ dp < 6) (hA : ok → cR2 X LX n K R M e (dp + 1) W0 277 A (fun b => srds (SA b)) dA) (hC : ok → cR2 X LX n K R M e (dp + 1) W0 275 A2 (fun b => srds (SC b)) dC) (iA : g_in e A) (iC : g_in e A2) (hd9 : 10 ≤ dn ∧ (ok → dA + 1 ≤ dn ∧ dC + 1 ≤ dn)) : cR2 X LX n K R M e dp W0 277 (g_atm (M 231) e A A2 ok) (fun b => srds (s_atm (M 231) e SA SC b)) dn := by
  obtain ⟨-, he0, he4⟩ := tRe hE
  intro d bc bs pt b bg st W L Q hd hp hg hst k0 h1 h0
  have h1 : ∀ p2 bg2 st2 W2, RL (L ++ srds (s_atm (M 231) e SA SC b)) W0 st2 W2 → (g_atm (M 231) e A A2 ok b).1 = true → 0 ≤ p2 ∧ p2 ≤ e → tx_g (M 231) e p2 = (g_atm (M 231) e A A2 ok b).2 → 0 ≤ st2 ∧ st2 - st ≤ p2 - pt ∧ pt ≤ p2 → Q (.inl (some (gm_vi 1))) n K R (rm M p2 bg2 dp st2 W2) := h1
  obtain ⟨hg1, hg2, -⟩ := tx_gb (f := M 231) hp.2
  rw [hg] at hg1 hg2
  have hb : 0 ≤ b ∧ b ≤ e := ⟨by omega, hg2⟩
  have hkb := tx_kc (f := M 231) (e := e) (b := b) (fun h => tRb hE hb.1 (by omega))
  have hsb := g_sum_in (f := M 231) 400 b hb.1 hb.2
  refine gm_sz (gm_p_load (pc := 0) (i := .aload_n 0) (sr := 2) (j := 0) (by decide +kernel) rfl rfl rfl) ?_
  refine gm_sz (gm_p_const (pc := 1) (i := .bipush 40) (v := gm_vi 40) (by decide +kernel) (by decide +kernel)) ?_
  refine gm_c_virt (k := 226) (ci := 11) (mj := 278) (ix := 248) (pc := 3) (as := [gm_vi 40]) (st := []) (d' := d - 1) (bc' := 0) (bs' := 0) (by decide +kernel) (by decide +kernel) (by decide +kernel) (by decide +kernel) (tR226 hE).1 (tR226 hE).2 (by decide) (by decide +kernel) (show 1 = gm_na 278 by decide +kernel) (fw_c1 fw_si) (show 2 ≤ gm_ml 278 by decide +kernel) (Nat.le_of_ble_eq_true rfl) (by omega) (Nat.zero_le _) (Nat.zero_le _) ?_
  refine tr_c278 (by omega) hE (by decide) hp hg (fun j1 => ?_) (fun j1 => ?_)
  · show gm_Wp X LX d _ _ 277 6 _ [gm_vi 1] n K R _ Q
    have j1 : tx_k (M 231) e b = 40 := j1
    have g2 : 0 ≤ tx_s (M 231) e b ∧ tx_s (M 231) e b ≤ e := by have := tx_sb (f := M 231) hb.2; have := hb.1; omega
    have g3 : 0 ≤ tx_n (M 231) e b ∧ tx_n (M 231) e b ≤ e := by have := tx_gb (f := M 231) g2.2; have := g2.1; unfold tx_n; omega
    have j1s := (tx_sb (f := M 231) hb.2).2.2 (tx_kne (f := M 231) (by omega))
    have j1p := (tx_gb (f := M 231) hp.2).1
    rw [hg] at j1p
    refine fw_iffd (cc := .eq) (pc := 6) (off := 50) (by decide +kernel) (by decide) ⟨by decide, by decide⟩ (by decide) ?_
    refine gm_sz (gm_p_load (pc := 9) (i := .aload_n 0) (sr := 2) (j := 0) (by decide +kernel) rfl rfl rfl) ?_
    refine gm_sz (fw_gi (pc := 10) (ix := 251) (ci := 11) (j := 12) (x := dp) (by decide +kernel) (tR226 hE) (by decide +kernel) (by decide +kernel) rfl) ?_
    refine gm_sz (gm_p_const (pc := 13) (i := .bipush 6) (v := gm_vi 6) (by decide +kernel) (by decide +kernel)) ?_
    refine fw_ic (cc := .ne) (pc := 15) (off := 5) (by decide +kernel) (by decide) ⟨by omega, by omega⟩ ⟨by decide, by decide⟩ (fun j5 => ?_) (fun j5 => ?_)
    · have j5 : ¬ dp = 6 := j5
      refine gm_sz (gm_p_load (pc := 20) (i := .aload_n 0) (sr := 2) (j := 0) (by decide +kernel) rfl rfl rfl) ?_
      refine gm_sz (gm_p_dup (pc := 21) (by decide +kernel) fw_sr) ?_
      refine gm_sz (fw_gi (pc := 22) (ix := 251) (ci := 11) (j := 12) (x := dp) (by decide +kernel) (tR226 hE) (by decide +kernel) (by decide +kernel) rfl) ?_
      refine gm_sz (gm_p_const (pc := 25) (i := .iconst 1) (v := gm_vi 1) (by decide +kernel) (by decide +kernel)) ?_
      refine gm_sz (gm_p_bin (pc := 26) (i := .iadd) (f := fun x y => x + y) (by decide +kernel) rfl) ?_
      refine gm_sz (fw_pi (pc := 27) (ix := 251) (ci := 11) (j := 12) (M' := rm M (tx_s (M 231) e b) b (dp + 1) st W) (by decide +kernel) (tR226 hE) (by decide +kernel) (by decide +kernel) (by decide +kernel) rm_dp) ?_
      refine gm_sz (gm_p_load (pc := 30) (i := .aload_n 0) (sr := 2) (j := 0) (by decide +kernel) rfl rfl rfl) ?_
      refine gm_c_virt (k := 226) (ci := 11) (mj := 275) (ix := 253) (pc := 31) (as := []) (st := []) (d' := d - 1) (bc' := 0) (bs' := 0) (by decide +kernel) (by decide +kernel) (by decide +kernel) (by decide +kernel) (tR226 hE).1 (tR226 hE).2 (by decide) (by decide +kernel) (show 0 = gm_na 275 by decide +kernel) fw_c0 (show 1 ≤ gm_ml 275 by decide +kernel) (Nat.le_of_ble_eq_true rfl) (by omega) (Nat.zero_le _) (Nat.zero_le _) ?_
      refine hC (hok6.mpr (by omega)) _ _ _ _ _ _ _ _ _ _ (by have := hd9.2 (hok6.mpr (by omega)); omega) g2 rfl ⟨by omega, by omega⟩ k0 (fun p6 x7 s8 W9 kW9 j10 q11b q11 t13 => ?_) (fun p6 x15 s8 W9 fW9 j10 => ?_)
      · show gm_Wp X LX d _ _ 277 34 _ [gm_vi 1] n K R _ Q
        have j10 : (A2 (tx_n (M 231) e b)).1 = true := j10
        have q11 : tx_g (M 231) e p6 = (A2 (tx_n (M 231) e b)).2 := q11
        have g12 : 0 ≤ (A2 (tx_n (M 231) e b)).2 ∧ (A2 (tx_n (M 231) e b)).2 ≤ e := by have := iC (tx_n (M 231) e b) g3.1 g3.2; have := g3.1; omega
        have i14 := (iC (tx_n (M 231) e b) g3.1 g3.2)
        have i14 := i14.2.2 j10
        refine fw_iftd (cc := .ne) (pc := 34) (off := 5) (by decide +kernel) (by decide) ⟨by decide, by decide⟩ (by decide) ?_
        refine gm_sz (gm_p_load (pc := 39) (i := .aload_n 0) (sr := 2) (j := 0) (by decide +kernel) rfl rfl rfl) ?_
        refine gm_sz (gm_p_dup (pc := 40) (by decide +kernel) fw_sr) ?_
        refine gm_sz (fw_gi (pc := 41) (ix := 251) (ci := 11) (j := 12) (x := dp + 1) (by decide +kernel) (tR226 hE) (by decide +kernel) (by decide +kernel) rfl) ?_
        refine gm_sz (gm_p_const (pc := 44) (i := .iconst 1) (v := gm_vi 1) (by decide +kernel) (by decide +kernel)) ?_
        refine gm_sz (gm_p_bin (pc := 45) (i := .isub) (f := fun x y => x - y) (by decide +kernel) rfl) ?_
        refine gm_sz (fw_pi (pc := 46) (ix := 251) (ci := 11) (j := 12) (M' := rm M p6 x7 dp s8 W9) (by decide +kernel) (tR226 hE) (by decide +kernel) (by decide +kernel) (by decide +kernel) (by rw [rm_dp, show dp + 1 - 1 = dp by omega])) ?_
        refine gm_sz (gm_p_load (pc := 49) (i := .aload_n 0) (sr := 2) (j := 0) (by decide +kernel) rfl rfl rfl) ?_
        refine gm_sz (gm_p_const (pc := 50) (i := .bipush 41) (v := gm_vi 41) (by decide +kernel) (by decide +kernel)) ?_
        refine gm_c_virt (k := 226) (ci := 11) (mj := 278) (ix := 248) (pc := 52) (as := [gm_vi 41]) (st := []) (d' := d - 1) (bc' := 0) (bs' := 0) (by decide +kernel) (by decide +kernel) (by decide +kernel) (by decide +kernel) (tR226 hE).1 (tR226 hE).2 (by decide) (by decide +kernel) (show 1 = gm_na 278 by decide +kernel) (fw_c1 fw_si) (show 2 ≤ gm_ml 278 by decide +kernel) (Nat.le_of_ble_eq_true rfl) (by omega) (Nat.zero_le _) (Nat.zero_le _) ?_
        refine tr_c278 (by omega) hE (by decide) q11b q11 (fun j16 => ?_) (fun j16 => ?_)
        · show gm_Wp X LX d _ _ 277 55 _ [gm_vi 1] n K R _ Q
          have j16 : tx_k (M 231) e ((A2 (tx_n (M 231) e b)).2) = 41 := j16
          have g17 : 0 ≤ tx_s (M 231) e ((A2 (tx_n (M 231) e b)).2) ∧ tx_s (M 231) e ((A2 (tx_n (M 231) e b)).2) ≤ e := by have := tx_sb (f := M 231) g12.2; have := g12.1; omega
          have g18 : 0 ≤ tx_n (M 231) e ((A2 (tx_n (M 231) e b)).2) ∧ tx_n (M 231) e ((A2 (tx_n (M 231) e b)).2) ≤ e := by have := tx_gb (f := M 231) g17.2; have := g17.1; have h9 : tx_n (M 231) e ((A2 (tx_n (M 231) e b)).2) = tx_g (M 231) e (tx_s (M 231) e ((A2 (tx_n (M 231) e b)).2)) := rfl; omega
          have j16s := (tx_sb (f := M 231) g12.2).2.2 (tx_kne (f := M 231) (by omega))
          have j16p := (tx_gb (f := M 231) q11b.2).1
          rw [q11] at j16p
          rw [g_a3 (fun h => by have := g_kis h; omega) j1 (hok6.mpr (by omega)) j10 j16] at h1
          rw [s_a3 (fun h => by have := g_kis h; omega) j1] at h1
          exact gm_r_int (pc := 55) (by decide +kernel) (Or.inr ⟨(by decide +kernel), Or.inr rfl⟩) (h1 _ _ _ _ kW9 rfl g17 rfl ⟨by omega, by omega, by omega⟩)
        · show gm_Wp X LX d _ _ 277 55 _ [gm_vi 0] n K R _ Q
          have j16 : ¬ tx_k (M 231) e ((A2 (tx_n (M 231) e b)).2) = 41 := j16
          have q19 : tx_g (M 231) e ((A2 (tx_n (M 231) e b)).2) = (A2 (tx_n (M 231) e b)).2 := by rw [← q11]; exact tx_gi q11b.2
          rw [g_a4 (fun h => by have := g_kis h; omega) j1 (hok6.mpr (by omega)) j10 j16] at h0
          exact gm_r_int (pc := 55) (by decide +kernel) (Or.inr ⟨(by decide +kernel), Or.inl rfl⟩) (h0 _ _ _ _ (kW9.2.1) (fun h => by cases h))
      · show gm_Wp X LX d _ _ 277 34 _ [gm_vi 0] n K R _ Q
        have j10 : ¬ (A2 (tx_n (M 231) e b)).1 = true := j10
        have g12 : 0 ≤ (A2 (tx_n (M 231) e b)).2 ∧ (A2 (tx_n (M 231) e b)).2 ≤ e := by have := iC (tx_n (M 231) e b) g3.1 g3.2; have := g3.1; omega
        refine fw_iffd (cc := .ne) (pc := 34) (off := 5) (by decide +kernel) (by decide) ⟨by decide, by decide⟩ (by decide) ?_
        refine gm_sz (gm_p_const (pc := 37) (i := .iconst 0) (v := gm_vi 0) (by decide +kernel) (by decide +kernel)) ?_
        rw [g_a2 (fun h => by have := g_kis h; omega) j1 (hok6.mpr (by omega)) j10] at h0
        exact gm_r_int (pc := 38) (by decide +kernel) (Or.inr ⟨(by decide +kernel), Or.inl rfl⟩) (h0 _ _ _ _ (fW9) j10)
    · have j5 : dp = 6 := Classical.not_not.mp j5
      refine gm_sz (gm_p_const (pc := 18) (i := .iconst 0) (v := gm_vi 0) (by decide +kernel) (by decide +kernel)) ?_
      rw [g_a0 (Or.inr j1) (fun h => by have := hok6.mp h; omega)] at h0
      exact gm_r_int (pc := 19) (by decide +kernel) (Or.inr ⟨(by decide +kernel), Or.inl rfl⟩) (h0 _ _ _ _ (k0.2.1) (fun h => by cases h))
  · show gm_Wp X LX d _ _ 277 6 _ [gm_vi 0] n K R _ Q
    have j1 : ¬ tx_k (M 231) e b = 40 := j1
    have q4 : tx_g (M 231) e b = b := by rw [← hg]; exact tx_gi hp.2
    refine fw_iftd (cc := .eq) (pc := 6) (off := 50) (by decide +kernel) (by decide) ⟨by decide, by decide⟩ (by decide) ?_
    refine gm_sz (gm_p_load (pc := 56) (i := .aload_n 0) (sr := 2) (j := 0) (by decide +kernel) rfl rfl rfl) ?_
    refine gm_sz (gm_p_ldcs (pc := 57) (i := .ldc_w 256) (ix := 256) (id := 63) (by decide +kernel) (Or.inr rfl) (by decide +kernel)) ?_
    refine gm_c_virt (k := 226) (ci := 11) (mj := 269) (ix := 170) (pc := 60) (as := [gm_vo 63]) (st := []) (d' := d - 1) (bc' := 0) (bs' := 0) (by decide +kernel) (by decide +kernel) (by decide +kernel) (by decide +kernel) (tR226 hE).1 (tR226 hE).2 (by decide) (by decide +kernel) (show 1 = gm_na 269 by decide +kernel) (fw_c1 fw_so) (show 2 ≤ gm_ml 269 by decide +kernel) (Nat.le_of_ble_eq_true rfl) (by omega) (Nat.zero_le _) (Nat.zero_le _) ?_
    refine tr_c269 (by omega) hE (by decide) (show tx_o 63 = wo_not by decide +kernel) (by decide) hb q4 (fun j20 => ?_) (fun j20 => ?_)
    · show gm_Wp X LX d _ _ 277 63 _ [gm_vi 1] n K R _ Q
      have j20 : tx_is (M 231) e b wo_not := j20
      have g21 : 0 ≤ tx_s (M 231) e b ∧ tx_s (M 231) e b ≤ e := by have := tx_sb (f := M 231) hb.2; have := hb.1; omega
      have g22 : 0 ≤ tx_n (M 231) e b ∧ tx_n (M 231) e b ≤ e := by have := tx_gb (f := M 231) g21.2; have := g21.1; unfold tx_n; omega
      have j20s := (tx_sb (f := M 231) hb.2).2.2 (g_isb j20)
      have j20p := (tx_gb (f := M 231) hb.2).1
      rw [q4] at j20p
      refine fw_iffd (cc := .eq) (pc := 63) (off := 52) (by decide +kernel) (by decide) ⟨by decide, by decide⟩ (by decide) ?_
      refine gm_sz (gm_p_load (pc := 66) (i := .aload_n 0) (sr := 2) (j := 0) (by decide +kernel) rfl rfl rfl) ?_
      refine gm_sz (fw_gi (pc := 67) (ix := 251) (ci := 11) (j := 12) (x := dp) (by decide +kernel) (tR226 hE) (by decide +kernel) (by decide +kernel) rfl) ?_
      refine gm_sz (gm_p_const (pc := 70) (i := .bipush 6) (v := gm_vi 6) (by decide +kernel) (by decide +kernel)) ?_
      refine fw_ic (cc := .ne) (pc := 72) (off := 5) (by decide +kernel) (by decide) ⟨by omega, by omega⟩ ⟨by decide, by decide⟩ (fun j24 => ?_) (fun j24 => ?_)
      · have j24 : ¬ dp = 6 := j24
        refine gm_sz (gm_p_load (pc := 77) (i := .aload_n 0) (sr := 2) (j := 0) (by decide +kernel) rfl rfl rfl) ?_
        refine gm_sz (gm_p_dup (pc := 78) (by decide +kernel) fw_sr) ?_
        refine gm_sz (fw_gi (pc := 79) (ix := 251) (ci := 11) (j := 12) (x := dp) (by decide +kernel) (tR226 hE) (by decide +kernel) (by decide +kernel) rfl) ?_
        refine gm_sz (gm_p_const (pc := 82) (i := .iconst 1) (v := gm_vi 1) (by decide +kernel) (by decide +kernel)) ?_
        refine gm_sz (gm_p_bin (pc := 83) (i := .iadd) (f := fun x y => x + y) (by decide +kernel) rfl) ?_
        refine gm_sz (fw_pi (pc := 84) (ix := 251) (ci := 11) (j := 12) (M' := rm M (tx_s (M 231) e b) b (dp + 1) st W) (by decide +kernel) (tR226 hE) (by decide +kernel) (by decide +kernel) (by decide +kernel) rm_dp) ?_
        refine gm_sz (gm_p_load (pc := 87) (i := .aload_n 0) (sr := 2) (j := 0) (by decide +kernel) rfl rfl rfl) ?_
        refine gm_c_virt (k := 226) (ci := 11) (mj := 277) (ix := 258) (pc := 88) (as := []) (st := []) (d' := d - 1) (bc' := 0) (bs' := 0) (by decide +kernel) (by decide +kernel) (by decide +kernel) (by decide +kernel) (tR226 hE).1 (tR226 hE).2 (by decide) (by decide +kernel) (show 0 = gm_na 277 by decide +kernel) fw_c0 (show 1 ≤ gm_ml 277 by decide +kernel) (Nat.le_of_ble_eq_true rfl) (by omega) (Nat.zero_le _) (Nat.zero_le _) ?_
        refine hA (hok6.mpr (by omega)) _ _ _ _ _ _ _ _ _ _ (by have := hd9.2 (hok6.mpr (by omega)); omega) g21 rfl ⟨by omega, by omega⟩ k0 (fun p25 x26 s27 W28 kW28 j29 q30b q30 t32 => ?_) (fun p25 x34 s27 W28 fW28 j29 => ?_)
        · show gm_Wp X LX d _ _ 277 91 _ [gm_vi 1] n K R _ Q
          have j29 : (A (tx_n (M 231) e b)).1 = true := j29
          have q30 : tx_g (M 231) e p25 = (A (tx_n (M 231) e b)).2 := q30
          have g31 : 0 ≤ (A (tx_n (M 231) e b)).2 ∧ (A (tx_n (M 231) e b)).2 ≤ e := by have := iA (tx_n (M 231) e b) g22.1 g22.2; have := g22.1; omega
          have i33 := (iA (tx_n (M 231) e b) g22.1 g22.2)
          have i33 := i33.2.2 j29
          refine fw_iftd (cc := .ne) (pc := 91) (off := 5) (by decide +kernel) (by decide) ⟨by decide, by decide⟩ (by decide) ?_
          refine gm_sz (gm_p_load (pc := 96) (i := .aload_n 0) (sr := 2) (j := 0) (by decide +kernel) rfl rfl rfl) ?_
          refine gm_sz (gm_p_dup (pc := 97) (by decide +kernel) fw_sr) ?_
          refine gm_sz (fw_gi (pc := 98) (ix := 251) (ci := 11) (j := 12) (x := dp + 1) (by decide +kernel) (tR226 hE) (by decide +kernel) (by decide +kernel) rfl) ?_
          refine gm_sz (gm_p_const (pc := 101) (i := .iconst 1) (v := gm_vi 1) (by decide +kernel) (by decide +kernel)) ?_
          refine gm_sz (gm_p_bin (pc := 102) (i := .isub) (f := fun x y => x - y) (by decide +kernel) rfl) ?_
          refine gm_sz (fw_pi (pc := 103) (ix := 251) (ci := 11) (j := 12) (M' := rm M p25 x26 dp s27 W28) (by decide +kernel) (tR226 hE) (by decide +kernel) (by decide +kernel) (by decide +kernel) (by rw [rm_dp, show dp + 1 - 1 = dp by omega])) ?_
          refine gm_sz (gm_p_load (pc := 106) (i := .aload_n 0) (sr := 2) (j := 0) (by decide +kernel) rfl rfl rfl) ?_
          refine gm_sz (gm_p_const (pc := 107) (i := .bipush 14) (v := gm_vi 14) (by decide +kernel) (by decide +kernel)) ?_
          refine gm_sz (gm_p_const (pc := 109) (i := .iconst 0) (v := gm_vi 0) (by decide +kernel) (by decide +kernel)) ?_
          refine gm_c_virt (k := 226) (ci := 11) (mj := 279) (ix := 227) (pc := 110) (as := [gm_vi 14, gm_vi 0]) (st := []) (d' := d - 1) (bc' := 0) (bs' := 0) (by decide +kernel) (by decide +kernel) (by decide +kernel) (by decide +kernel) (tR226 hE).1 (tR226 hE).2 (by decide) (by decide +kernel) (show 2 = gm_na 279 by decide +kernel) (fw_c2 fw_si fw_si) (show 3 ≤ gm_ml 279 by decide +kernel) (Nat.le_of_ble_eq_true rfl) (by omega) (Nat.zero_le _) (Nat.zero_le _) ?_
          refine sr_c279 hE ⟨by omega, by omega⟩ kW28 (fun W35 kW35 => ?_)
          show gm_Wp X LX d _ _ 277 113 _ [] n K R _ Q
          refine gm_sz (gm_p_const (pc := 113) (i := .iconst 1) (v := gm_vi 1) (by decide +kernel) (by decide +kernel)) ?_
          rw [g_a1 j20 (hok6.mpr (by omega))] at h1
          rw [s_a1 j20, srds_app, srds_1 (Or.inl rfl), ← List.append_assoc] at h1
          exact gm_r_int (pc := 114) (by decide +kernel) (Or.inr ⟨(by decide +kernel), Or.inr rfl⟩) (h1 _ _ _ _ kW35 j29 q30b q30 ⟨by omega, by omega, by omega⟩)
        · show gm_Wp X LX d _ _ 277 91 _ [gm_vi 0] n K R _ Q
          have j29 : ¬ (A (tx_n (M 231) e b)).1 = true := j29
          have g31 : 0 ≤ (A (tx_n (M 231) e b)).2 ∧ (A (tx_n (M 231) e b)).2 ≤ e := by have := iA (tx_n (M 231) e b) g22.1 g22.2; have := g22.1; omega
          refine fw_iffd (cc := .ne) (pc := 91) (off := 5) (by decide +kernel) (by decide) ⟨by decide, by decide⟩ (by decide) ?_
          refine gm_sz (gm_p_const (pc := 94) (i := .iconst 0) (v := gm_vi 0) (by decide +kernel) (by decide +kernel)) ?_
          rw [g_a1 j20 (hok6.mpr (by omega))] at h0
          exact gm_r_int (pc := 95) (by decide +kernel) (Or.inr ⟨(by decide +kernel), Or.inl rfl⟩) (h0 _ _ _ _ (fW28) j29)
      · have j24 : dp = 6 := Classical.not_not.mp j24
        refine gm_sz (gm_p_const (pc := 75) (i := .iconst 0) (v := gm_vi 0) (by decide +kernel) (by decide +kernel)) ?_
        rw [g_a0 (Or.inl j20) (fun h => by have := hok6.mp h; omega)] at h0
        exact gm_r_int (pc := 76) (by decide +kernel) (Or.inr ⟨(by decide +kernel), Or.inl rfl⟩) (h0 _ _ _ _ (k0.2.1) (fun h => by cases h))
    · show gm_Wp X LX d _ _ 277 63 _ [gm_vi 0] n K R _ Q
      have j20 : ¬ tx_is (M 231) e b wo_not := j20
      have q23 : tx_g (M 231) e b = b := by rw [← q4]; exact tx_gi hb.2
      refine fw_iftd (cc := .eq) (pc := 63) (off := 52) (by decide +kernel) (by decide) ⟨by decide, by decide⟩ (by decide) ?_
      refine gm_sz (gm_p_load (pc := 115) (i := .aload_n 0) (sr := 2) (j := 0) (by decide +kernel) rfl rfl rfl) ?_
      refine gm_sz (gm_p_ldcs (pc := 116) (i := .ldc_w 261) (ix := 261) (id := 64) (by decide +kernel) (Or.inr rfl) (by decide +kernel)) ?_
      refine gm_c_virt (k := 226) (ci := 11) (mj := 269) (ix := 170) (pc := 119) (as := [gm_vo 64]) (st := []) (d' := d - 1) (bc' := 0) (bs' := 0) (by decide +kernel) (by decide +kernel) (by decide +kernel) (by decide +kernel) (tR226 hE).1 (tR226 hE).2 (by decide) (by decide +kernel) (show 1 = gm_na 269 by decide +kernel) (fw_c1 fw_so) (show 2 ≤ gm_ml 269 by decide +kernel) (Nat.le_of_ble_eq_true rfl) (by omega) (Nat.zero_le _) (Nat.zero_le _) ?_
      refine tr_c269 (by omega) hE (by decide) (show tx_o 64 = wo_side by decide +kernel) (by decide) hb q23 (fun j36 => ?_) (fun j36 => ?_)
      · show gm_Wp X LX d _ _ 277 122 _ [gm_vi 1] n K R _ Q
        have j36 : tx_is (M 231) e b wo_side := j36
        have g37 : 0 ≤ tx_s (M 231) e b ∧ tx_s (M 231) e b ≤ e := by have := tx_sb (f := M 231) hb.2; have := hb.1; omega
        have g38 : 0 ≤ tx_n (M 231) e b ∧ tx_n (M 231) e b ≤ e := by have := tx_gb (f := M 231) g37.2; have := g37.1; unfold tx_n; omega
        have j36s := (tx_sb (f := M 231) hb.2).2.2 (g_isb j36)
        have j36p := (tx_gb (f := M 231) hb.2).1
        rw [q23] at j36p
        refine gm_sz (gm_p_stor (pc := 122) (i := .istore_n 1) (sr := 0) (j := 1) (by decide +kernel) rfl (show 2 ≤ _ from Nat.le_of_ble_eq_true rfl) rfl) ?_
        refine gm_sz (gm_p_load (pc := 123) (i := .iload_n 1) (sr := 0) (j := 1) (by decide +kernel) rfl rfl rfl) ?_
        refine fw_iftd (cc := .ne) (pc := 124) (off := 13) (by decide +kernel) (by decide) ⟨by decide, by decide⟩ (by decide) ?_
        refine gm_sz (gm_p_load (pc := 137) (i := .aload_n 0) (sr := 2) (j := 0) (by decide +kernel) rfl rfl rfl) ?_
        refine gm_sz (gm_p_load (pc := 138) (i := .iload_n 1) (sr := 0) (j := 1) (by decide +kernel) rfl rfl rfl) ?_
        refine fw_iffd (cc := .eq) (pc := 139) (off := 8) (by decide +kernel) (by decide) ⟨by decide, by decide⟩ (by decide) ?_
        refine gm_sz (gm_p_const (pc := 142) (i := .bipush 8) (v := gm_vi 8) (by decide +kernel) (by decide +kernel)) ?_
        refine gm_sz (gm_p_goto (pc := 144) (off := 5) (by decide +kernel) (by decide)) ?_
        refine gm_sz (gm_p_const (pc := 149) (i := .iconst 0) (v := gm_vi 0) (by decide +kernel) (by decide +kernel)) ?_
        refine gm_c_virt (k := 226) (ci := 11) (mj := 279) (ix := 227) (pc := 150) (as := [gm_vi 8, gm_vi 0]) (st := []) (d' := d - 1) (bc' := 0) (bs' := 0) (by decide +kernel) (by decide +kernel) (by decide +kernel) (by decide +kernel) (tR226 hE).1 (tR226 hE).2 (by decide) (by decide +kernel) (show 2 = gm_na 279 by decide +kernel) (fw_c2 fw_si fw_si) (show 3 ≤ gm_ml 279 by decide +kernel) (Nat.le_of_ble_eq_true rfl) (by omega) (Nat.zero_le _) (Nat.zero_le _) ?_
        refine sr_c279 hE ⟨by omega, by omega⟩ k0 (fun W40 kW40 => ?_)
        show gm_Wp X LX d _ _ 277 153 _ [] n K R _ Q
        refine gm_sz (gm_p_const (pc := 153) (i := .iconst 1) (v := gm_vi 1) (by decide +kernel) (by decide +kernel)) ?_
        rw [g_a5 j20 j1 (Or.inl j36)] at h1
        rw [s_a5 j20 j1 j36, srds_1 (Or.inr (Or.inr (Or.inr (Or.inl rfl))))] at h1
        exact gm_r_int (pc := 154) (by decide +kernel) (Or.inr ⟨(by decide +kernel), Or.inr rfl⟩) (h1 _ _ _ _ kW40 rfl g37 rfl ⟨by omega, by omega, by omega⟩)
      · show gm_Wp X LX d _ _ 277 122 _ [gm_vi 0] n K R _ Q
        have j36 : ¬ tx_is (M 231) e b wo_side := j36
        have q39 : tx_g (M 231) e b = b := by rw [← q23]; exact tx_gi hb.2
        refine gm_sz (gm_p_stor (pc := 122) (i := .istore_n 1) (sr := 0) (j := 1) (by decide +kernel) rfl (show 2 ≤ _ from Nat.le_of_ble_eq_true rfl) rfl) ?_
        refine gm_sz (gm_p_load (pc := 123) (i := .iload_n 1) (sr := 0) (j := 1) (by decide +kernel) rfl rfl rfl) ?_
        refine fw_iffd (cc := .ne) (pc := 124) (off := 13) (by decide +kernel) (by decide) ⟨by decide, by decide⟩ (by decide) ?_
        refine gm_sz (gm_p_load (pc := 127) (i := .aload_n 0) (sr := 2) (j := 0) (by decide +kernel) rfl rfl rfl) ?_
        refine gm_sz (gm_p_ldcs (pc := 128) (i := .ldc_w 263) (ix := 263) (id := 65) (by decide +kernel) (Or.inr rfl) (by decide +kernel)) ?_
        refine gm_c_virt (k := 226) (ci := 11) (mj := 269) (ix := 170) (pc := 131) (as := [gm_vo 65]) (st := []) (d' := d - 1) (bc' := 0) (bs' := 0) (by decide +kernel) (by decide +kernel) (by decide +kernel) (by decide +kernel) (tR226 hE).1 (tR226 hE).2 (by decide) (by decide +kernel) (show 1 = gm_na 269 by decide +kernel) (fw_c1 fw_so) (show 2 ≤ gm_ml 269 by decide +kernel) (Nat.le_of_ble_eq_true rfl) (by omega) (Nat.zero_le _) (Nat.zero_le _) ?_
        refine tr_c269 (by omega) hE (by decide) (show tx_o 65 = wo_first by decide +kernel) (by decide) hb q39 (fun j41 => ?_) (fun j41 => ?_)
        · show gm_Wp X LX d _ _ 277 134 _ [gm_vi 1] n K R _ Q
          have j41 : tx_is (M 231) e b wo_first := j41
          have g42 : 0 ≤ tx_s (M 231) e b ∧ tx_s (M 231) e b ≤ e := by have := tx_sb (f := M 231) hb.2; have := hb.1; omega
          have g43 : 0 ≤ tx_n (M 231) e b ∧ tx_n (M 231) e b ≤ e := by have := tx_gb (f := M 231) g42.2; have := g42.1; unfold tx_n; omega
          have j41s := (tx_sb (f := M 231) hb.2).2.2 (g_isb j41)
          have j41p := (tx_gb (f := M 231) hb.2).1
          rw [q39] at j41p
          refine fw_iffd (cc := .eq) (pc := 134) (off := 21) (by decide +kernel) (by decide) ⟨by decide, by decide⟩ (by decide) ?_
          refine gm_sz (gm_p_load (pc := 137) (i := .aload_n 0) (sr := 2) (j := 0) (by decide +kernel) rfl rfl rfl) ?_
          refine gm_sz (gm_p_load (pc := 138) (i := .iload_n 1) (sr := 0) (j := 1) (by decide +kernel) rfl rfl rfl) ?_
          refine fw_iftd (cc := .eq) (pc := 139) (off := 8) (by decide +kernel) (by decide) ⟨by decide, by decide⟩ (by decide) ?_
          refine gm_sz (gm_p_const (pc := 147) (i := .bipush 9) (v := gm_vi 9) (by decide +kernel) (by decide +kernel)) ?_
          refine gm_sz (gm_p_const (pc := 149) (i := .iconst 0) (v := gm_vi 0) (by decide +kernel) (by decide +kernel)) ?_
          refine gm_c_virt (k := 226) (ci := 11) (mj := 279) (ix := 227) (pc := 150) (as := [gm_vi 9, gm_vi 0]) (st := []) (d' := d - 1) (bc' := 0) (bs' := 0) (by decide +kernel) (by decide +kernel) (by decide +kernel) (by decide +kernel) (tR226 hE).1 (tR226 hE).2 (by decide) (by decide +kernel) (show 2 = gm_na 279 by decide +kernel) (fw_c2 fw_si fw_si) (show 3 ≤ gm_ml 279 by decide +kernel) (Nat.le_of_ble_eq_true rfl) (by omega) (Nat.zero_le _) (Nat.zero_le _) ?_
          refine sr_c279 hE ⟨by omega, by omega⟩ k0 (fun W45 kW45 => ?_)
          show gm_Wp X LX d _ _ 277 153 _ [] n K R _ Q
          refine gm_sz (gm_p_const (pc := 153) (i := .iconst 1) (v := gm_vi 1) (by decide +kernel) (by decide +kernel)) ?_
          rw [g_a5 j20 j1 (Or.inr j41)] at h1
          rw [s_a6 j20 j1 j36 j41, srds_1 (Or.inr (Or.inr (Or.inr (Or.inr rfl))))] at h1
          exact gm_r_int (pc := 154) (by decide +kernel) (Or.inr ⟨(by decide +kernel), Or.inr rfl⟩) (h1 _ _ _ _ kW45 rfl g42 rfl ⟨by omega, by omega, by omega⟩)
        · show gm_Wp X LX d _ _ 277 134 _ [gm_vi 0] n K R _ Q
          have j41 : ¬ tx_is (M 231) e b wo_first := j41
          have q44 : tx_g (M 231) e b = b := by rw [← q39]; exact tx_gi hb.2
          refine fw_iftd (cc := .eq) (pc := 134) (off := 21) (by decide +kernel) (by decide) ⟨by decide, by decide⟩ (by decide) ?_
          refine gm_sz (gm_p_load (pc := 155) (i := .aload_n 0) (sr := 2) (j := 0) (by decide +kernel) rfl rfl rfl) ?_
          refine gm_c_virt (k := 226) (ci := 11) (mj := 280) (ix := 265) (pc := 156) (as := []) (st := []) (d' := d - 1) (bc' := 0) (bs' := 0) (by decide +kernel) (by decide +kernel) (by decide +kernel) (by decide +kernel) (tR226 hE).1 (tR226 hE).2 (by decide) (by decide +kernel) (show 0 = gm_na 280 by decide +kernel) fw_c0 (show 1 ≤ gm_ml 280 by decide +kernel) (Nat.le_of_ble_eq_true rfl) (by omega) (Nat.zero_le _) (Nat.zero_le _) ?_
          refine sr_c280 hE _ _ _ _ _ _ _ _ _ _ (by omega) hb q44 ⟨by omega, by omega⟩ k0 (fun p46 x47 s48 W49 kW49 j50 q51b q51 t53 => ?_) (fun p46 x55 s48 W49 fW49 j50 => ?_)
          · show gm_Wp X LX d _ _ 277 159 _ [gm_vi 1] n K R _ Q
            have j50 : (g_sum (M 231) e 400 b).1 = true := j50
            have q51 : tx_g (M 231) e p46 = (g_sum (M 231) e 400 b).2 := q51
            have g52 : 0 ≤ (g_sum (M 231) e 400 b).2 ∧ (g_sum (M 231) e 400 b).2 ≤ e := by have := g_sum_in (f := M 231) 400 b hb.1 hb.2; have := hb.1; omega
            have i54 := (g_sum_in (f := M 231) 400 b hb.1 hb.2)
            have i54 := i54.2.2 j50
            refine fw_iftd (cc := .ne) (pc := 159) (off := 5) (by decide +kernel) (by decide) ⟨by decide, by decide⟩ (by decide) ?_
            refine gm_sz (gm_p_load (pc := 164) (i := .aload_n 0) (sr := 2) (j := 0) (by decide +kernel) rfl rfl rfl) ?_
            refine gm_sz (gm_p_const (pc := 165) (i := .bipush 60) (v := gm_vi 60) (by decide +kernel) (by decide +kernel)) ?_
            refine gm_c_virt (k := 226) (ci := 11) (mj := 278) (ix := 248) (pc := 167) (as := [gm_vi 60]) (st := []) (d' := d - 1) (bc' := 0) (bs' := 0) (by decide +kernel) (by decide +kernel) (by decide +kernel) (by decide +kernel) (tR226 hE).1 (tR226 hE).2 (by decide) (by decide +kernel) (show 1 = gm_na 278 by decide +kernel) (fw_c1 fw_si) (show 2 ≤ gm_ml 278 by decide +kernel) (Nat.le_of_ble_eq_true rfl) (by omega) (Nat.zero_le _) (Nat.zero_le _) ?_
            refine tr_c278 (by omega) hE (by decide) q51b q51 (fun j56 => ?_) (fun j56 => ?_)
            · show gm_Wp X LX d _ _ 277 170 _ [gm_vi 1] n K R _ Q
              have j56 : tx_k (M 231) e ((g_sum (M 231) e 400 b).2) = 60 := j56
              have g57 : 0 ≤ tx_s (M 231) e ((g_sum (M 231) e 400 b).2) ∧ tx_s (M 231) e ((g_sum (M 231) e 400 b).2) ≤ e := by have := tx_sb (f := M 231) g52.2; have := g52.1; omega
              have g58 : 0 ≤ tx_n (M 231) e ((g_sum (M 231) e 400 b).2) ∧ tx_n (M 231) e ((g_sum (M 231) e 400 b).2) ≤ e := by have := tx_gb (f := M 231) g57.2; have := g57.1; have h9 : tx_n (M 231) e ((g_sum (M 231) e 400 b).2) = tx_g (M 231) e (tx_s (M 231) e ((g_sum (M 231) e 400 b).2)) := rfl; omega
              have j56s := (tx_sb (f := M 231) g52.2).2.2 (tx_kne (f := M 231) (by omega))
              have j56p := (tx_gb (f := M 231) q51b.2).1
              rw [q51] at j56p
              refine gm_sz (gm_p_stor (pc := 170) (i := .istore_n 2) (sr := 0) (j := 2) (by decide +kernel) rfl (show 3 ≤ _ from Nat.le_of_ble_eq_true rfl) rfl) ?_
              refine gm_sz (gm_p_load (pc := 171) (i := .iload_n 2) (sr := 0) (j := 2) (by decide +kernel) rfl rfl rfl) ?_
              refine fw_iftd (cc := .ne) (pc := 172) (off := 12) (by decide +kernel) (by decide) ⟨by decide, by decide⟩ (by decide) ?_
              refine gm_sz (gm_p_load (pc := 184) (i := .aload_n 0) (sr := 2) (j := 0) (by decide +kernel) rfl rfl rfl) ?_
              refine gm_c_virt (k := 226) (ci := 11) (mj := 280) (ix := 265) (pc := 185) (as := []) (st := []) (d' := d - 1) (bc' := 0) (bs' := 0) (by decide +kernel) (by decide +kernel) (by decide +kernel) (by decide +kernel) (tR226 hE).1 (tR226 hE).2 (by decide) (by decide +kernel) (show 0 = gm_na 280 by decide +kernel) fw_c0 (show 1 ≤ gm_ml 280 by decide +kernel) (Nat.le_of_ble_eq_true rfl) (by omega) (Nat.zero_le _) (Nat.zero_le _) ?_
              refine sr_c280 hE _ _ _ _ _ _ _ _ _ _ (by omega) g57 rfl ⟨by omega, by omega⟩ kW49 (fun p60 x61 s62 W63 kW63 j64 q65b q65 t67 => ?_) (fun p60 x69 s62 W63 fW63 j64 => ?_)
              · show gm_Wp X LX d _ _ 277 188 _ [gm_vi 1] n K R _ Q
                have j64 : (g_sum (M 231) e 400 (tx_n (M 231) e ((g_sum (M 231) e 400 b).2))).1 = true := j64
                have q65 : tx_g (M 231) e p60 = (g_sum (M 231) e 400 (tx_n (M 231) e ((g_sum (M 231) e 400 b).2))).2 := q65
                have g66 : 0 ≤ (g_sum (M 231) e 400 (tx_n (M 231) e ((g_sum (M 231) e 400 b).2))).2 ∧ (g_sum (M 231) e 400 (tx_n (M 231) e ((g_sum (M 231) e 400 b).2))).2 ≤ e := by have := g_sum_in (f := M 231) 400 (tx_n (M 231) e ((g_sum (M 231) e 400 b).2)) g58.1 g58.2; have := g58.1; omega
                have i68 := (g_sum_in (f := M 231) 400 (tx_n (M 231) e ((g_sum (M 231) e 400 b).2)) g58.1 g58.2)
                have i68 := i68.2.2 j64
                refine fw_iftd (cc := .ne) (pc := 188) (off := 5) (by decide +kernel) (by decide) ⟨by decide, by decide⟩ (by decide) ?_
                refine gm_sz (gm_p_load (pc := 193) (i := .aload_n 0) (sr := 2) (j := 0) (by decide +kernel) rfl rfl rfl) ?_
                refine gm_sz (gm_p_load (pc := 194) (i := .iload_n 2) (sr := 0) (j := 2) (by decide +kernel) rfl rfl rfl) ?_
                refine fw_iffd (cc := .eq) (pc := 195) (off := 8) (by decide +kernel) (by decide) ⟨by decide, by decide⟩ (by decide) ?_
                refine gm_sz (gm_p_const (pc := 198) (i := .bipush 12) (v := gm_vi 12) (by decide +kernel) (by decide +kernel)) ?_
                refine gm_sz (gm_p_goto (pc := 200) (off := 5) (by decide +kernel) (by decide)) ?_
                refine gm_sz (gm_p_const (pc := 205) (i := .iconst 0) (v := gm_vi 0) (by decide +kernel) (by decide +kernel)) ?_
                refine gm_c_virt (k := 226) (ci := 11) (mj := 279) (ix := 227) (pc := 206) (as := [gm_vi 12, gm_vi 0]) (st := []) (d' := d - 1) (bc' := 0) (bs' := 0) (by decide +kernel) (by decide +kernel) (by decide +kernel) (by decide +kernel) (tR226 hE).1 (tR226 hE).2 (by decide) (by decide +kernel) (show 2 = gm_na 279 by decide +kernel) (fw_c2 fw_si fw_si) (show 3 ≤ gm_ml 279 by decide +kernel) (Nat.le_of_ble_eq_true rfl) (by omega) (Nat.zero_le _) (Nat.zero_le _) ?_
                refine sr_c279 hE ⟨by omega, by omega⟩ kW63 (fun W70 kW70 => ?_)
                show gm_Wp X LX d _ _ 277 209 _ [] n K R _ Q
                refine gm_sz (gm_p_const (pc := 209) (i := .iconst 1) (v := gm_vi 1) (by decide +kernel) (by decide +kernel)) ?_
                rw [g_a8 j20 j1 j36 j41 j50 (by omega)] at h1
                rw [s_a8 (g := false) j20 j1 j36 j41 (decide_eq_false (by omega)), srds_c, ← List.append_assoc, ← List.append_assoc] at h1
                exact gm_r_int (pc := 210) (by decide +kernel) (Or.inr ⟨(by decide +kernel), Or.inr rfl⟩) (h1 _ _ _ _ kW70 j64 q65b q65 ⟨by omega, by omega, by omega⟩)
              · show gm_Wp X LX d _ _ 277 188 _ [gm_vi 0] n K R _ Q
                have j64 : ¬ (g_sum (M 231) e 400 (tx_n (M 231) e ((g_sum (M 231) e 400 b).2))).1 = true := j64
                have g66 : 0 ≤ (g_sum (M 231) e 400 (tx_n (M 231) e ((g_sum (M 231) e 400 b).2))).2 ∧ (g_sum (M 231) e 400 (tx_n (M 231) e ((g_sum (M 231) e 400 b).2))).2 ≤ e := by have := g_sum_in (f := M 231) 400 (tx_n (M 231) e ((g_sum (M 231) e 400 b).2)) g58.1 g58.2; have := g58.1; omega
                refine fw_iffd (cc := .ne) (pc := 188) (off := 5) (by decide +kernel) (by decide) ⟨by decide, by decide⟩ (by decide) ?_
                refine gm_sz (gm_p_const (pc := 191) (i := .iconst 0) (v := gm_vi 0) (by decide +kernel) (by decide +kernel)) ?_
                rw [g_a8 j20 j1 j36 j41 j50 (by omega)] at h0
                exact gm_r_int (pc := 192) (by decide +kernel) (Or.inr ⟨(by decide +kernel), Or.inl rfl⟩) (h0 _ _ _ _ (fW63) j64)
            · show gm_Wp X LX d _ _ 277 170 _ [gm_vi 0] n K R _ Q
              have j56 : ¬ tx_k (M 231) e ((g_sum (M 231) e 400 b).2) = 60 := j56
              have q59 : tx_g (M 231) e ((g_sum (M 231) e 400 b).2) = (g_sum (M 231) e 400 b).2 := by rw [← q51]; exact tx_gi q51b.2
              have j59p := (tx_gb (f := M 231) q51b.2).1
              rw [q51] at j59p
              refine gm_sz (gm_p_stor (pc := 170) (i := .istore_n 2) (sr := 0) (j := 2) (by decide +kernel) rfl (show 3 ≤ _ from Nat.le_of_ble_eq_true rfl) rfl) ?_
              refine gm_sz (gm_p_load (pc := 171) (i := .iload_n 2) (sr := 0) (j := 2) (by decide +kernel) rfl rfl rfl) ?_
              refine fw_iffd (cc := .ne) (pc := 172) (off := 12) (by decide +kernel) (by decide) ⟨by decide, by decide⟩ (by decide) ?_
              refine gm_sz (gm_p_load (pc := 175) (i := .aload_n 0) (sr := 2) (j := 0) (by decide +kernel) rfl rfl rfl) ?_
              refine gm_sz (gm_p_const (pc := 176) (i := .bipush 62) (v := gm_vi 62) (by decide +kernel) (by decide +kernel)) ?_
              refine gm_c_virt (k := 226) (ci := 11) (mj := 278) (ix := 248) (pc := 178) (as := [gm_vi 62]) (st := []) (d' := d - 1) (bc' := 0) (bs' := 0) (by decide +kernel) (by decide +kernel) (by decide +kernel) (by decide +kernel) (tR226 hE).1 (tR226 hE).2 (by decide) (by decide +kernel) (show 1 = gm_na 278 by decide +kernel) (fw_c1 fw_si) (show 2 ≤ gm_ml 278 by decide +kernel) (Nat.le_of_ble_eq_true rfl) (by omega) (Nat.zero_le _) (Nat.zero_le _) ?_
              refine tr_c278 (by omega) hE (by decide) g52 q59 (fun j71 => ?_) (fun j71 => ?_)
              · show gm_Wp X LX d _ _ 277 181 _ [gm_vi 1] n K R _ Q
                have j71 : tx_k (M 231) e ((g_sum (M 231) e 400 b).2) = 62 := j71
                have g72 : 0 ≤ tx_s (M 231) e ((g_sum (M 231) e 400 b).2) ∧ tx_s (M 231) e ((g_sum (M 231) e 400 b).2) ≤ e := by have := tx_sb (f := M 231) g52.2; have := g52.1; omega
                have g73 : 0 ≤ tx_n (M 231) e ((g_sum (M 231) e 400 b).2) ∧ tx_n (M 231) e ((g_sum (M 231) e 400 b).2) ≤ e := by have := tx_gb (f := M 231) g72.2; have := g72.1; have h9 : tx_n (M 231) e ((g_sum (M 231) e 400 b).2) = tx_g (M 231) e (tx_s (M 231) e ((g_sum (M 231) e 400 b).2)) := rfl; omega
                have j71s := (tx_sb (f := M 231) g52.2).2.2 (tx_kne (f := M 231) (by omega))
                have j71p := (tx_gb (f := M 231) g52.2).1
                rw [q59] at j71p
                refine fw_iffd (cc := .eq) (pc := 181) (off := 10) (by decide +kernel) (by decide) ⟨by decide, by decide⟩ (by decide) ?_
                refine gm_sz (gm_p_load (pc := 184) (i := .aload_n 0) (sr := 2) (j := 0) (by decide +kernel) rfl rfl rfl) ?_
                refine gm_c_virt (k := 226) (ci := 11) (mj := 280) (ix := 265) (pc := 185) (as := []) (st := []) (d' := d - 1) (bc' := 0) (bs' := 0) (by decide +kernel) (by decide +kernel) (by decide +kernel) (by decide +kernel) (tR226 hE).1 (tR226 hE).2 (by decide) (by decide +kernel) (show 0 = gm_na 280 by decide +kernel) fw_c0 (show 1 ≤ gm_ml 280 by decide +kernel) (Nat.le_of_ble_eq_true rfl) (by omega) (Nat.zero_le _) (Nat.zero_le _) ?_
                refine sr_c280 hE _ _ _ _ _ _ _ _ _ _ (by omega) g72 rfl ⟨by omega, by omega⟩ kW49 (fun p75 x76 s77 W78 kW78 j79 q80b q80 t82 => ?_) (fun p75 x84 s77 W78 fW78 j79 => ?_)
                · show gm_Wp X LX d _ _ 277 188 _ [gm_vi 1] n K R _ Q
                  have j79 : (g_sum (M 231) e 400 (tx_n (M 231) e ((g_sum (M 231) e 400 b).2))).1 = true := j79
                  have q80 : tx_g (M 231) e p75 = (g_sum (M 231) e 400 (tx_n (M 231) e ((g_sum (M 231) e 400 b).2))).2 := q80
                  have g81 : 0 ≤ (g_sum (M 231) e 400 (tx_n (M 231) e ((g_sum (M 231) e 400 b).2))).2 ∧ (g_sum (M 231) e 400 (tx_n (M 231) e ((g_sum (M 231) e 400 b).2))).2 ≤ e := by have := g_sum_in (f := M 231) 400 (tx_n (M 231) e ((g_sum (M 231) e 400 b).2)) g73.1 g73.2; have := g73.1; omega
                  have i83 := (g_sum_in (f := M 231) 400 (tx_n (M 231) e ((g_sum (M 231) e 400 b).2)) g73.1 g73.2)
                  have i83 := i83.2.2 j79
                  refine fw_iftd (cc := .ne) (pc := 188) (off := 5) (by decide +kernel) (by decide) ⟨by decide, by decide⟩ (by decide) ?_
                  refine gm_sz (gm_p_load (pc := 193) (i := .aload_n 0) (sr := 2) (j := 0) (by decide +kernel) rfl rfl rfl) ?_
                  refine gm_sz (gm_p_load (pc := 194) (i := .iload_n 2) (sr := 0) (j := 2) (by decide +kernel) rfl rfl rfl) ?_
                  refine fw_iftd (cc := .eq) (pc := 195) (off := 8) (by decide +kernel) (by decide) ⟨by decide, by decide⟩ (by decide) ?_
                  refine gm_sz (gm_p_const (pc := 203) (i := .bipush 13) (v := gm_vi 13) (by decide +kernel) (by decide +kernel)) ?_
                  refine gm_sz (gm_p_const (pc := 205) (i := .iconst 0) (v := gm_vi 0) (by decide +kernel) (by decide +kernel)) ?_
                  refine gm_c_virt (k := 226) (ci := 11) (mj := 279) (ix := 227) (pc := 206) (as := [gm_vi 13, gm_vi 0]) (st := []) (d' := d - 1) (bc' := 0) (bs' := 0) (by decide +kernel) (by decide +kernel) (by decide +kernel) (by decide +kernel) (tR226 hE).1 (tR226 hE).2 (by decide) (by decide +kernel) (show 2 = gm_na 279 by decide +kernel) (fw_c2 fw_si fw_si) (show 3 ≤ gm_ml 279 by decide +kernel) (Nat.le_of_ble_eq_true rfl) (by omega) (Nat.zero_le _) (Nat.zero_le _) ?_
                  refine sr_c279 hE ⟨by omega, by omega⟩ kW78 (fun W85 kW85 => ?_)
                  show gm_Wp X LX d _ _ 277 209 _ [] n K R _ Q
                  refine gm_sz (gm_p_const (pc := 209) (i := .iconst 1) (v := gm_vi 1) (by decide +kernel) (by decide +kernel)) ?_
                  rw [g_a8 j20 j1 j36 j41 j50 (by omega)] at h1
                  rw [s_a8 (g := true) j20 j1 j36 j41 (decide_eq_true (by omega)), srds_c, ← List.append_assoc, ← List.append_assoc] at h1
                  exact gm_r_int (pc := 210) (by decide +kernel) (Or.inr ⟨(by decide +kernel), Or.inr rfl⟩) (h1 _ _ _ _ kW85 j79 q80b q80 ⟨by omega, by omega, by omega⟩)
                · show gm_Wp X LX d _ _ 277 188 _ [gm_vi 0] n K R _ Q
                  have j79 : ¬ (g_sum (M 231) e 400 (tx_n (M 231) e ((g_sum (M 231) e 400 b).2))).1 = true := j79
                  have g81 : 0 ≤ (g_sum (M 231) e 400 (tx_n (M 231) e ((g_sum (M 231) e 400 b).2))).2 ∧ (g_sum (M 231) e 400 (tx_n (M 231) e ((g_sum (M 231) e 400 b).2))).2 ≤ e := by have := g_sum_in (f := M 231) 400 (tx_n (M 231) e ((g_sum (M 231) e 400 b).2)) g73.1 g73.2; have := g73.1; omega
                  refine fw_iffd (cc := .ne) (pc := 188) (off := 5) (by decide +kernel) (by decide) ⟨by decide, by decide⟩ (by decide) ?_
                  refine gm_sz (gm_p_const (pc := 191) (i := .iconst 0) (v := gm_vi 0) (by decide +kernel) (by decide +kernel)) ?_
                  rw [g_a8 j20 j1 j36 j41 j50 (by omega)] at h0
                  exact gm_r_int (pc := 192) (by decide +kernel) (Or.inr ⟨(by decide +kernel), Or.inl rfl⟩) (h0 _ _ _ _ (fW78) j79)
              · show gm_Wp X LX d _ _ 277 181 _ [gm_vi 0] n K R _ Q
                have j71 : ¬ tx_k (M 231) e ((g_sum (M 231) e 400 b).2) = 62 := j71
                have q74 : tx_g (M 231) e ((g_sum (M 231) e 400 b).2) = (g_sum (M 231) e 400 b).2 := by rw [← q59]; exact tx_gi g52.2
                refine fw_iftd (cc := .eq) (pc := 181) (off := 10) (by decide +kernel) (by decide) ⟨by decide, by decide⟩ (by decide) ?_
                refine gm_sz (gm_p_const (pc := 191) (i := .iconst 0) (v := gm_vi 0) (by decide +kernel) (by decide +kernel)) ?_
                rw [g_a7 j20 j1 j36 j41 j50 (by omega)] at h0
                exact gm_r_int (pc := 192) (by decide +kernel) (Or.inr ⟨(by decide +kernel), Or.inl rfl⟩) (h0 _ _ _ _ (kW49.2.1) (fun h => by cases h))
          · show gm_Wp X LX d _ _ 277 159 _ [gm_vi 0] n K R _ Q
            have j50 : ¬ (g_sum (M 231) e 400 b).1 = true := j50
            have g52 : 0 ≤ (g_sum (M 231) e 400 b).2 ∧ (g_sum (M 231) e 400 b).2 ≤ e := by have := g_sum_in (f := M 231) 400 b hb.1 hb.2; have := hb.1; omega
            refine fw_iffd (cc := .ne) (pc := 159) (off := 5) (by decide +kernel) (by decide) ⟨by decide, by decide⟩ (by decide) ?_
            refine gm_sz (gm_p_const (pc := 162) (i := .iconst 0) (v := gm_vi 0) (by decide +kernel) (by decide +kernel)) ?_
            rw [g_a6 j20 j1 j36 j41 j50] at h0
            exact gm_r_int (pc := 163) (by decide +kernel) (Or.inr ⟨(by decide +kernel), Or.inl rfl⟩) (h0 _ _ _ _ (fW49) j50)

theorem sr_s276 {A : Int → Bool × Int} {SA : Int → List lst} {dA : Nat} (hA : cR2 X LX n K R M e dp W0 277 A (fun b => srds (SA b)) dA) (iA : g_in e A) (hd : 7 ≤ d ∧ dA + 1 ≤ d) (hE : tR n K R M e) : ∀ (t : Nat) (pt c bg st : Int) (W : Int → Int) (L : List (Int × Int)) (Q : gm_Q), e - c < 2 * (t : Int) → 0 ≤ pt ∧ pt ≤ e → tx_g (M 231) e pt = c → 0 ≤ st ∧ st + 1 ≤ pt → RL L W0 st W → (∀ p2 bg2 st2 W2, RL (L ++ e_am (M 231) e A SA t c) W0 st2 W2 → (g_am (M 231) e A t c).1 = true → 0 ≤ p2 ∧ p2 ≤ e → tx_g (M 231) e p2 = (g_am (M 231) e A t c).2 → 0 ≤ st2 ∧ st2 - st ≤ p2 - pt ∧ pt ≤ p2 → Q (.inl (some (gm_vi 1))) n K R (rm M p2 bg2 dp st2 W2)) → (∀ p2 dp2 st2 W2, (∀ j, j < 1293 → W2 j = W0 j) → ¬ (g_am (M 231) e A t c).1 = true → Q (.inl (some (gm_vi 0))) n K R (rm M p2 (g_am (M 231) e A t c).2 dp2 st2 W2)) → gm_Wp X LX d bc bs 276 9 [some (gm_vr 226)] [] n K R (rm M pt bg dp st W) Q := by
  obtain ⟨-, he0, he4⟩ := tRe hE
  intro t
  induction t with
  | zero =>
    intro pt c bg st W L Q ht hp hg hst k0 h1 h0
    obtain ⟨hg1, hg2, -⟩ := tx_gb (f := M 231) hp.2
    rw [hg] at hg1 hg2
    exact absurd ht (by omega)
  | succ t ih =>
    intro pt c bg st W L Q ht hp hg hst k0 h1 h0
    obtain ⟨hg1, hg2, -⟩ := tx_gb (f := M 231) hp.2
    rw [hg] at hg1 hg2
    have hb : 0 ≤ c ∧ c ≤ e := ⟨by omega, hg2⟩
    obtain ⟨hn1, hn2, hn3⟩ := tx_nb (f := M 231) hb.2
    refine gm_sz (gm_p_load (pc := 9) (i := .aload_n 0) (sr := 2) (j := 0) (by decide +kernel) rfl rfl rfl) ?_
    refine gm_sz (gm_p_ldcs (pc := 10) (i := .ldc_w 268) (ix := 268) (id := 73) (by decide +kernel) (Or.inr rfl) (by decide +kernel)) ?_
    refine gm_c_virt (k := 226) (ci := 11) (mj := 269) (ix := 170) (pc := 13) (as := [gm_vo 73]) (st := []) (d' := d - 1) (bc' := 0) (bs' := 0) (by decide +kernel) (by decide +kernel) (by decide +kernel) (by decide +kernel) (tR226 hE).1 (tR226 hE).2 (by decide) (by decide +kernel) (show 1 = gm_na 269 by decide +kernel) (fw_c1 fw_so) (show 2 ≤ gm_ml 269 by decide +kernel) (Nat.le_of_ble_eq_true rfl) (by omega) (Nat.zero_le _) (Nat.zero_le _) ?_
    refine tr_c269 (by omega) hE (by decide) (show tx_o 73 = wo_and by decide +kernel) (by decide) hp hg (fun j1 => ?_) (fun j1 => ?_)
    · show gm_Wp X LX d _ _ 276 16 _ [gm_vi 1] n K R _ Q
      have j1 : tx_is (M 231) e c wo_and := j1
      have g2 : 0 ≤ tx_s (M 231) e c ∧ tx_s (M 231) e c ≤ e := by have := tx_sb (f := M 231) hb.2; have := hb.1; omega
      have g3 : 0 ≤ tx_n (M 231) e c ∧ tx_n (M 231) e c ≤ e := by have := tx_gb (f := M 231) g2.2; have := g2.1; unfold tx_n; omega
      have j1s := (tx_sb (f := M 231) hb.2).2.2 (g_isb j1)
      have j1p := (tx_gb (f := M 231) hp.2).1
      rw [hg] at j1p
      refine fw_iffd (cc := .eq) (pc := 16) (off := 22) (by decide +kernel) (by decide) ⟨by decide, by decide⟩ (by decide) ?_
      refine gm_sz (gm_p_load (pc := 19) (i := .aload_n 0) (sr := 2) (j := 0) (by decide +kernel) rfl rfl rfl) ?_
      refine gm_c_virt (k := 226) (ci := 11) (mj := 277) (ix := 258) (pc := 20) (as := []) (st := []) (d' := d - 1) (bc' := 0) (bs' := 0) (by decide +kernel) (by decide +kernel) (by decide +kernel) (by decide +kernel) (tR226 hE).1 (tR226 hE).2 (by decide) (by decide +kernel) (show 0 = gm_na 277 by decide +kernel) fw_c0 (show 1 ≤ gm_ml 277 by decide +kernel) (Nat.le_of_ble_eq_true rfl) (by omega) (Nat.zero_le _) (Nat.zero_le _) ?_
      refine hA _ _ _ _ _ _ _ _ _ _ (by omega) g2 rfl ⟨by omega, by omega⟩ k0 (fun p5 x6 s7 W8 kW8 j9 q10b q10 t12 => ?_) (fun p5 x14 s7 W8 fW8 j9 => ?_)
      · show gm_Wp X LX d _ _ 276 23 _ [gm_vi 1] n K R _ Q
        have j9 : (A (tx_n (M 231) e c)).1 = true := j9
        have q10 : tx_g (M 231) e p5 = (A (tx_n (M 231) e c)).2 := q10
        have g11 : 0 ≤ (A (tx_n (M 231) e c)).2 ∧ (A (tx_n (M 231) e c)).2 ≤ e := by have := iA (tx_n (M 231) e c) g3.1 g3.2; have := g3.1; omega
        have i13 := (iA (tx_n (M 231) e c) g3.1 g3.2)
        have i13 := i13.2.2 j9
        refine fw_iftd (cc := .ne) (pc := 23) (off := 5) (by decide +kernel) (by decide) ⟨by decide, by decide⟩ (by decide) ?_
        refine gm_sz (gm_p_load (pc := 28) (i := .aload_n 0) (sr := 2) (j := 0) (by decide +kernel) rfl rfl rfl) ?_
        refine gm_sz (gm_p_const (pc := 29) (i := .bipush 15) (v := gm_vi 15) (by decide +kernel) (by decide +kernel)) ?_
        refine gm_sz (gm_p_const (pc := 31) (i := .iconst 0) (v := gm_vi 0) (by decide +kernel) (by decide +kernel)) ?_
        refine gm_c_virt (k := 226) (ci := 11) (mj := 279) (ix := 227) (pc := 32) (as := [gm_vi 15, gm_vi 0]) (st := []) (d' := d - 1) (bc' := 0) (bs' := 0) (by decide +kernel) (by decide +kernel) (by decide +kernel) (by decide +kernel) (tR226 hE).1 (tR226 hE).2 (by decide) (by decide +kernel) (show 2 = gm_na 279 by decide +kernel) (fw_c2 fw_si fw_si) (show 3 ≤ gm_ml 279 by decide +kernel) (Nat.le_of_ble_eq_true rfl) (by omega) (Nat.zero_le _) (Nat.zero_le _) ?_
        refine sr_c279 hE ⟨by omega, by omega⟩ kW8 (fun W15 kW15 => ?_)
        show gm_Wp X LX d _ _ 276 35 _ [] n K R _ Q
        refine gm_sz (gm_p_goto (pc := 35) (off := (-26)) (by decide +kernel) (by decide)) ?_
        rw [g_am2 j1 j9] at h1 h0
        rw [e_am2 j1, ← List.append_assoc, List.append_cons] at h1
        refine ih _ _ _ _ _ _ _ (by omega) q10b q10 ⟨by omega, by omega⟩ kW15 (fun p2 bg2 st2 W2 r0 r1 r2 r3 r4 => h1 p2 bg2 st2 W2 r0 r1 r2 r3 ⟨by omega, by omega, by omega⟩) h0
      · show gm_Wp X LX d _ _ 276 23 _ [gm_vi 0] n K R _ Q
        have j9 : ¬ (A (tx_n (M 231) e c)).1 = true := j9
        have g11 : 0 ≤ (A (tx_n (M 231) e c)).2 ∧ (A (tx_n (M 231) e c)).2 ≤ e := by have := iA (tx_n (M 231) e c) g3.1 g3.2; have := g3.1; omega
        refine fw_iffd (cc := .ne) (pc := 23) (off := 5) (by decide +kernel) (by decide) ⟨by decide, by decide⟩ (by decide) ?_
        refine gm_sz (gm_p_const (pc := 26) (i := .iconst 0) (v := gm_vi 0) (by decide +kernel) (by decide +kernel)) ?_
        rw [g_am1 j1 j9] at h0
        exact gm_r_int (pc := 27) (by decide +kernel) (Or.inr ⟨(by decide +kernel), Or.inl rfl⟩) (h0 _ _ _ _ (fW8) j9)
    · show gm_Wp X LX d _ _ 276 16 _ [gm_vi 0] n K R _ Q
      have j1 : ¬ tx_is (M 231) e c wo_and := j1
      have q4 : tx_g (M 231) e c = c := by rw [← hg]; exact tx_gi hp.2
      refine fw_iftd (cc := .eq) (pc := 16) (off := 22) (by decide +kernel) (by decide) ⟨by decide, by decide⟩ (by decide) ?_
      refine gm_sz (gm_p_const (pc := 38) (i := .iconst 1) (v := gm_vi 1) (by decide +kernel) (by decide +kernel)) ?_
      rw [g_am0 j1, e_am0 j1, List.append_nil] at h1
      exact gm_r_int (pc := 39) (by decide +kernel) (Or.inr ⟨(by decide +kernel), Or.inr rfl⟩) (h1 _ _ _ _ k0 rfl hb q4 ⟨by omega, by omega, by omega⟩)

theorem sr_c276 {A : Int → Bool × Int} {SA : Int → List lst} {dA dn : Nat} (hA : cR2 X LX n K R M e dp W0 277 A (fun b => srds (SA b)) dA) (iA : g_in e A) (hd9 : 7 ≤ dn ∧ dA + 1 ≤ dn) (hE : tR n K R M e) : cR2 X LX n K R M e dp W0 276 (g_all (M 231) e A 400) (fun b => srds (s_all (M 231) e A SA 400 true b)) dn := by
  obtain ⟨-, he0, he4⟩ := tRe hE
  intro d bc bs pt b bg st W L Q hd hp hg hst k0 h1 h0
  have h1 : ∀ p2 bg2 st2 W2, RL (L ++ srds (s_all (M 231) e A SA 400 true b)) W0 st2 W2 → (g_all (M 231) e A 400 b).1 = true → 0 ≤ p2 ∧ p2 ≤ e → tx_g (M 231) e p2 = (g_all (M 231) e A 400 b).2 → 0 ≤ st2 ∧ st2 - st ≤ p2 - pt ∧ pt ≤ p2 → Q (.inl (some (gm_vi 1))) n K R (rm M p2 bg2 dp st2 W2) := h1
  obtain ⟨hg1, hg2, -⟩ := tx_gb (f := M 231) hp.2
  rw [hg] at hg1 hg2
  have hb : 0 ≤ b ∧ b ≤ e := ⟨by omega, hg2⟩
  refine gm_sz (gm_p_load (pc := 0) (i := .aload_n 0) (sr := 2) (j := 0) (by decide +kernel) rfl rfl rfl) ?_
  refine gm_c_virt (k := 226) (ci := 11) (mj := 277) (ix := 258) (pc := 1) (as := []) (st := []) (d' := d - 1) (bc' := 0) (bs' := 0) (by decide +kernel) (by decide +kernel) (by decide +kernel) (by decide +kernel) (tR226 hE).1 (tR226 hE).2 (by decide) (by decide +kernel) (show 0 = gm_na 277 by decide +kernel) fw_c0 (show 1 ≤ gm_ml 277 by decide +kernel) (Nat.le_of_ble_eq_true rfl) (by omega) (Nat.zero_le _) (Nat.zero_le _) ?_
  refine hA _ _ _ _ _ _ _ _ _ _ (by omega) hp hg ⟨by omega, by omega⟩ k0 (fun p1 x2 s3 W4 kW4 j5 q6b q6 t8 => ?_) (fun p1 x10 s3 W4 fW4 j5 => ?_)
  · show gm_Wp X LX d _ _ 276 4 _ [gm_vi 1] n K R _ Q
    have j5 : (A b).1 = true := j5
    have q6 : tx_g (M 231) e p1 = (A b).2 := q6
    have g7 : 0 ≤ (A b).2 ∧ (A b).2 ≤ e := by have := iA b hb.1 hb.2; have := hb.1; omega
    have i9 := (iA b hb.1 hb.2)
    have i9 := i9.2.2 j5
    refine fw_iftd (cc := .ne) (pc := 4) (off := 5) (by decide +kernel) (by decide) ⟨by decide, by decide⟩ (by decide) ?_
    rw [g_ame (t := 399) j5] at h1 h0
    rw [e_ame (t := 399), ← List.append_assoc] at h1
    exact sr_s276 hA iA ⟨by omega, by omega⟩ hE 399 _ _ _ _ _ _ _ (by omega) q6b q6 ⟨by omega, by omega⟩ kW4 (fun p2 bg2 st2 W2 r0 r1 r2 r3 r4 => h1 p2 bg2 st2 W2 r0 r1 r2 r3 ⟨by omega, by omega, by omega⟩) h0
  · show gm_Wp X LX d _ _ 276 4 _ [gm_vi 0] n K R _ Q
    have j5 : ¬ (A b).1 = true := j5
    have g7 : 0 ≤ (A b).2 ∧ (A b).2 ≤ e := by have := iA b hb.1 hb.2; have := hb.1; omega
    refine fw_iffd (cc := .ne) (pc := 4) (off := 5) (by decide +kernel) (by decide) ⟨by decide, by decide⟩ (by decide) ?_
    refine gm_sz (gm_p_const (pc := 7) (i := .iconst 0) (v := gm_vi 0) (by decide +kernel) (by decide +kernel)) ?_
    rw [g_l0 (t := 399) j5] at h0
    exact gm_r_int (pc := 8) (by decide +kernel) (Or.inr ⟨(by decide +kernel), Or.inl rfl⟩) (h0 _ _ _ _ (fW4) j5)

theorem h_all4 {A : Int → Bool × Int} (iA : g_in e A) : g_in e (g_all (M 231) e A 400) := fun b h0 h1 => by
  obtain ⟨a, b2, c⟩ := g_all_in (f := M 231) iA 400 b h0 h1
  exact ⟨a, b2, c (by decide)⟩

theorem sr_s275 {A : Int → Bool × Int} {SA : Int → List lst} {dA : Nat} (hA : cR2 X LX n K R M e dp W0 276 (g_all (M 231) e A 400) (fun b => srds (s_all (M 231) e A SA 400 true b)) dA) (iA : g_in e A) (hd : 7 ≤ d ∧ dA + 1 ≤ d) (hE : tR n K R M e) : ∀ (t : Nat) (pt c bg st : Int) (W : Int → Int) (L : List (Int × Int)) (Q : gm_Q), e - c < 2 * (t : Int) → 0 ≤ pt ∧ pt ≤ e → tx_g (M 231) e pt = c → 0 ≤ st ∧ st + 1 ≤ pt → RL L W0 st W → (∀ p2 bg2 st2 W2, RL (L ++ e_cm (M 231) e A SA t c) W0 st2 W2 → (g_cm (M 231) e A t c).1 = true → 0 ≤ p2 ∧ p2 ≤ e → tx_g (M 231) e p2 = (g_cm (M 231) e A t c).2 → 0 ≤ st2 ∧ st2 - st ≤ p2 - pt ∧ pt ≤ p2 → Q (.inl (some (gm_vi 1))) n K R (rm M p2 bg2 dp st2 W2)) → (∀ p2 dp2 st2 W2, (∀ j, j < 1293 → W2 j = W0 j) → ¬ (g_cm (M 231) e A t c).1 = true → Q (.inl (some (gm_vi 0))) n K R (rm M p2 (g_cm (M 231) e A t c).2 dp2 st2 W2)) → gm_Wp X LX d bc bs 275 9 [some (gm_vr 226)] [] n K R (rm M pt bg dp st W) Q := by
  obtain ⟨-, he0, he4⟩ := tRe hE
  intro t
  induction t with
  | zero =>
    intro pt c bg st W L Q ht hp hg hst k0 h1 h0
    obtain ⟨hg1, hg2, -⟩ := tx_gb (f := M 231) hp.2
    rw [hg] at hg1 hg2
    exact absurd ht (by omega)
  | succ t ih =>
    intro pt c bg st W L Q ht hp hg hst k0 h1 h0
    obtain ⟨hg1, hg2, -⟩ := tx_gb (f := M 231) hp.2
    rw [hg] at hg1 hg2
    have hb : 0 ≤ c ∧ c ≤ e := ⟨by omega, hg2⟩
    obtain ⟨hn1, hn2, hn3⟩ := tx_nb (f := M 231) hb.2
    refine gm_sz (gm_p_load (pc := 9) (i := .aload_n 0) (sr := 2) (j := 0) (by decide +kernel) rfl rfl rfl) ?_
    refine gm_sz (gm_p_ldcs (pc := 10) (i := .ldc_w 273) (ix := 273) (id := 74) (by decide +kernel) (Or.inr rfl) (by decide +kernel)) ?_
    refine gm_c_virt (k := 226) (ci := 11) (mj := 269) (ix := 170) (pc := 13) (as := [gm_vo 74]) (st := []) (d' := d - 1) (bc' := 0) (bs' := 0) (by decide +kernel) (by decide +kernel) (by decide +kernel) (by decide +kernel) (tR226 hE).1 (tR226 hE).2 (by decide) (by decide +kernel) (show 1 = gm_na 269 by decide +kernel) (fw_c1 fw_so) (show 2 ≤ gm_ml 269 by decide +kernel) (Nat.le_of_ble_eq_true rfl) (by omega) (Nat.zero_le _) (Nat.zero_le _) ?_
    refine tr_c269 (by omega) hE (by decide) (show tx_o 74 = wo_or by decide +kernel) (by decide) hp hg (fun j1 => ?_) (fun j1 => ?_)
    · show gm_Wp X LX d _ _ 275 16 _ [gm_vi 1] n K R _ Q
      have j1 : tx_is (M 231) e c wo_or := j1
      have g2 : 0 ≤ tx_s (M 231) e c ∧ tx_s (M 231) e c ≤ e := by have := tx_sb (f := M 231) hb.2; have := hb.1; omega
      have g3 : 0 ≤ tx_n (M 231) e c ∧ tx_n (M 231) e c ≤ e := by have := tx_gb (f := M 231) g2.2; have := g2.1; unfold tx_n; omega
      have j1s := (tx_sb (f := M 231) hb.2).2.2 (g_isb j1)
      have j1p := (tx_gb (f := M 231) hp.2).1
      rw [hg] at j1p
      refine fw_iffd (cc := .eq) (pc := 16) (off := 22) (by decide +kernel) (by decide) ⟨by decide, by decide⟩ (by decide) ?_
      refine gm_sz (gm_p_load (pc := 19) (i := .aload_n 0) (sr := 2) (j := 0) (by decide +kernel) rfl rfl rfl) ?_
      refine gm_c_virt (k := 226) (ci := 11) (mj := 276) (ix := 270) (pc := 20) (as := []) (st := []) (d' := d - 1) (bc' := 0) (bs' := 0) (by decide +kernel) (by decide +kernel) (by decide +kernel) (by decide +kernel) (tR226 hE).1 (tR226 hE).2 (by decide) (by decide +kernel) (show 0 = gm_na 276 by decide +kernel) fw_c0 (show 1 ≤ gm_ml 276 by decide +kernel) (Nat.le_of_ble_eq_true rfl) (by omega) (Nat.zero_le _) (Nat.zero_le _) ?_
      refine hA _ _ _ _ _ _ _ _ _ _ (by omega) g2 rfl ⟨by omega, by omega⟩ k0 (fun p5 x6 s7 W8 kW8 j9 q10b q10 t12 => ?_) (fun p5 x14 s7 W8 fW8 j9 => ?_)
      · show gm_Wp X LX d _ _ 275 23 _ [gm_vi 1] n K R _ Q
        have j9 : (g_all (M 231) e A 400 (tx_n (M 231) e c)).1 = true := j9
        have q10 : tx_g (M 231) e p5 = (g_all (M 231) e A 400 (tx_n (M 231) e c)).2 := q10
        have g11 : 0 ≤ (g_all (M 231) e A 400 (tx_n (M 231) e c)).2 ∧ (g_all (M 231) e A 400 (tx_n (M 231) e c)).2 ≤ e := by have := h_all4 (M := M) iA (tx_n (M 231) e c) g3.1 g3.2; have := g3.1; omega
        have i13 := (h_all4 (M := M) iA (tx_n (M 231) e c) g3.1 g3.2)
        have i13 := i13.2.2 j9
        refine fw_iftd (cc := .ne) (pc := 23) (off := 5) (by decide +kernel) (by decide) ⟨by decide, by decide⟩ (by decide) ?_
        refine gm_sz (gm_p_load (pc := 28) (i := .aload_n 0) (sr := 2) (j := 0) (by decide +kernel) rfl rfl rfl) ?_
        refine gm_sz (gm_p_const (pc := 29) (i := .bipush 16) (v := gm_vi 16) (by decide +kernel) (by decide +kernel)) ?_
        refine gm_sz (gm_p_const (pc := 31) (i := .iconst 0) (v := gm_vi 0) (by decide +kernel) (by decide +kernel)) ?_
        refine gm_c_virt (k := 226) (ci := 11) (mj := 279) (ix := 227) (pc := 32) (as := [gm_vi 16, gm_vi 0]) (st := []) (d' := d - 1) (bc' := 0) (bs' := 0) (by decide +kernel) (by decide +kernel) (by decide +kernel) (by decide +kernel) (tR226 hE).1 (tR226 hE).2 (by decide) (by decide +kernel) (show 2 = gm_na 279 by decide +kernel) (fw_c2 fw_si fw_si) (show 3 ≤ gm_ml 279 by decide +kernel) (Nat.le_of_ble_eq_true rfl) (by omega) (Nat.zero_le _) (Nat.zero_le _) ?_
        refine sr_c279 hE ⟨by omega, by omega⟩ kW8 (fun W15 kW15 => ?_)
        show gm_Wp X LX d _ _ 275 35 _ [] n K R _ Q
        refine gm_sz (gm_p_goto (pc := 35) (off := (-26)) (by decide +kernel) (by decide)) ?_
        rw [g_cm2 j1 j9] at h1 h0
        rw [e_cm2 j1, ← List.append_assoc, List.append_cons] at h1
        refine ih _ _ _ _ _ _ _ (by omega) q10b q10 ⟨by omega, by omega⟩ kW15 (fun p2 bg2 st2 W2 r0 r1 r2 r3 r4 => h1 p2 bg2 st2 W2 r0 r1 r2 r3 ⟨by omega, by omega, by omega⟩) h0
      · show gm_Wp X LX d _ _ 275 23 _ [gm_vi 0] n K R _ Q
        have j9 : ¬ (g_all (M 231) e A 400 (tx_n (M 231) e c)).1 = true := j9
        have g11 : 0 ≤ (g_all (M 231) e A 400 (tx_n (M 231) e c)).2 ∧ (g_all (M 231) e A 400 (tx_n (M 231) e c)).2 ≤ e := by have := h_all4 (M := M) iA (tx_n (M 231) e c) g3.1 g3.2; have := g3.1; omega
        refine fw_iffd (cc := .ne) (pc := 23) (off := 5) (by decide +kernel) (by decide) ⟨by decide, by decide⟩ (by decide) ?_
        refine gm_sz (gm_p_const (pc := 26) (i := .iconst 0) (v := gm_vi 0) (by decide +kernel) (by decide +kernel)) ?_
        rw [g_cm1 j1 j9] at h0
        exact gm_r_int (pc := 27) (by decide +kernel) (Or.inr ⟨(by decide +kernel), Or.inl rfl⟩) (h0 _ _ _ _ (fW8) j9)
    · show gm_Wp X LX d _ _ 275 16 _ [gm_vi 0] n K R _ Q
      have j1 : ¬ tx_is (M 231) e c wo_or := j1
      have q4 : tx_g (M 231) e c = c := by rw [← hg]; exact tx_gi hp.2
      refine fw_iftd (cc := .eq) (pc := 16) (off := 22) (by decide +kernel) (by decide) ⟨by decide, by decide⟩ (by decide) ?_
      refine gm_sz (gm_p_const (pc := 38) (i := .iconst 1) (v := gm_vi 1) (by decide +kernel) (by decide +kernel)) ?_
      rw [g_cm0 j1, e_cm0 j1, List.append_nil] at h1
      exact gm_r_int (pc := 39) (by decide +kernel) (Or.inr ⟨(by decide +kernel), Or.inr rfl⟩) (h1 _ _ _ _ k0 rfl hb q4 ⟨by omega, by omega, by omega⟩)

theorem sr_c275 {A : Int → Bool × Int} {SA : Int → List lst} {dA dn : Nat} (hA : cR2 X LX n K R M e dp W0 276 (g_all (M 231) e A 400) (fun b => srds (s_all (M 231) e A SA 400 true b)) dA) (iA : g_in e A) (hd9 : 7 ≤ dn ∧ dA + 1 ≤ dn) (hE : tR n K R M e) : cR2 X LX n K R M e dp W0 275 (g_cnd (M 231) e A 400) (fun b => srds (s_cnd (M 231) e A SA 400 true b)) dn := by
  obtain ⟨-, he0, he4⟩ := tRe hE
  intro d bc bs pt b bg st W L Q hd hp hg hst k0 h1 h0
  have h1 : ∀ p2 bg2 st2 W2, RL (L ++ srds (s_cnd (M 231) e A SA 400 true b)) W0 st2 W2 → (g_cnd (M 231) e A 400 b).1 = true → 0 ≤ p2 ∧ p2 ≤ e → tx_g (M 231) e p2 = (g_cnd (M 231) e A 400 b).2 → 0 ≤ st2 ∧ st2 - st ≤ p2 - pt ∧ pt ≤ p2 → Q (.inl (some (gm_vi 1))) n K R (rm M p2 bg2 dp st2 W2) := h1
  obtain ⟨hg1, hg2, -⟩ := tx_gb (f := M 231) hp.2
  rw [hg] at hg1 hg2
  have hb : 0 ≤ b ∧ b ≤ e := ⟨by omega, hg2⟩
  refine gm_sz (gm_p_load (pc := 0) (i := .aload_n 0) (sr := 2) (j := 0) (by decide +kernel) rfl rfl rfl) ?_
  refine gm_c_virt (k := 226) (ci := 11) (mj := 276) (ix := 270) (pc := 1) (as := []) (st := []) (d' := d - 1) (bc' := 0) (bs' := 0) (by decide +kernel) (by decide +kernel) (by decide +kernel) (by decide +kernel) (tR226 hE).1 (tR226 hE).2 (by decide) (by decide +kernel) (show 0 = gm_na 276 by decide +kernel) fw_c0 (show 1 ≤ gm_ml 276 by decide +kernel) (Nat.le_of_ble_eq_true rfl) (by omega) (Nat.zero_le _) (Nat.zero_le _) ?_
  refine hA _ _ _ _ _ _ _ _ _ _ (by omega) hp hg ⟨by omega, by omega⟩ k0 (fun p1 x2 s3 W4 kW4 j5 q6b q6 t8 => ?_) (fun p1 x10 s3 W4 fW4 j5 => ?_)
  · show gm_Wp X LX d _ _ 275 4 _ [gm_vi 1] n K R _ Q
    have j5 : (g_all (M 231) e A 400 b).1 = true := j5
    have q6 : tx_g (M 231) e p1 = (g_all (M 231) e A 400 b).2 := q6
    have g7 : 0 ≤ (g_all (M 231) e A 400 b).2 ∧ (g_all (M 231) e A 400 b).2 ≤ e := by have := h_all4 (M := M) iA b hb.1 hb.2; have := hb.1; omega
    have i9 := (h_all4 (M := M) iA b hb.1 hb.2)
    have i9 := i9.2.2 j5
    refine fw_iftd (cc := .ne) (pc := 4) (off := 5) (by decide +kernel) (by decide) ⟨by decide, by decide⟩ (by decide) ?_
    rw [g_cme (t := 399) j5] at h1 h0
    rw [e_cme (t := 399), ← List.append_assoc] at h1
    exact sr_s275 hA iA ⟨by omega, by omega⟩ hE 399 _ _ _ _ _ _ _ (by omega) q6b q6 ⟨by omega, by omega⟩ kW4 (fun p2 bg2 st2 W2 r0 r1 r2 r3 r4 => h1 p2 bg2 st2 W2 r0 r1 r2 r3 ⟨by omega, by omega, by omega⟩) h0
  · show gm_Wp X LX d _ _ 275 4 _ [gm_vi 0] n K R _ Q
    have j5 : ¬ (g_all (M 231) e A 400 b).1 = true := j5
    have g7 : 0 ≤ (g_all (M 231) e A 400 b).2 ∧ (g_all (M 231) e A 400 b).2 ≤ e := by have := h_all4 (M := M) iA b hb.1 hb.2; have := hb.1; omega
    refine fw_iffd (cc := .ne) (pc := 4) (off := 5) (by decide +kernel) (by decide) ⟨by decide, by decide⟩ (by decide) ?_
    refine gm_sz (gm_p_const (pc := 7) (i := .iconst 0) (v := gm_vi 0) (by decide +kernel) (by decide +kernel)) ?_
    rw [g_d0 (t := 399) j5] at h0
    exact gm_r_int (pc := 8) (by decide +kernel) (Or.inr ⟨(by decide +kernel), Or.inl rfl⟩) (h0 _ _ _ _ (fW4) j5)

/-- readAtom and readCond, k deep still -/
theorem sr_at (hE : tR n K R M e) : ∀ k : Nat, k ≤ 6 → cR2 X LX n K R M e (6 - (k : Int)) W0 277 (g_at (M 231) e k) (fun b => srds (s_at (M 231) e k b)) (10 + 3 * k) := by
  intro k
  induction k with
  | zero => exact fun _ => sr_c277 (SA := fun _ => []) (SC := fun _ => []) hE ⟨by decide, by decide⟩ (Iff.intro (fun h => h.elim) (fun h => by omega)) (dA := 0) (dC := 0) (fun h => h.elim) (fun h => h.elim) g_no_in g_no_in ⟨by omega, fun h => h.elim⟩
  | succ k ih =>
    intro hk
    have e1 : (6 : Int) - ((k + 1 : Nat) : Int) + 1 = 6 - (k : Int) := by omega
    refine sr_c277 (SA := s_at (M 231) e k) (SC := fun b => s_cnd (M 231) e (g_at (M 231) e k) (s_at (M 231) e k) 400 true b) (dA := 10 + 3 * k) (dC := 12 + 3 * k) hE ⟨by omega, by omega⟩ (Iff.intro (fun _ => by omega) (fun _ => trivial)) (fun _ => ?_) (fun _ => ?_) (g_at_in k) (g_cnd_in (g_at_in k) 400) ⟨by omega, fun _ => by omega⟩
    · rw [e1]
      exact ih (by omega)
    · rw [e1]
      exact sr_c275 (dA := 11 + 3 * k) (sr_c276 (ih (by omega)) (g_at_in k) (by omega) hE) (g_at_in k) (by omega) hE
theorem sr_cd (hE : tR n K R M e) : cR2 X LX n K R M e 0 W0 275 (g_cd (M 231) e 6) (fun b => srds (s_cd (M 231) e 6 b)) 30 := sr_c275 (dA := 29) (sr_c276 (sr_at hE 6 (by decide)) (g_at_in 6) (by decide) hE) (g_at_in 6) (by decide) hE
end KR
