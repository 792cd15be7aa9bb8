/-! THE REFERENCE: who waits, by whom it is opened (laid by wip/core/r3.py). -/
/-- may open, as the reference has it -/
noncomputable def rpsi (N h : Int → Int) (H : (Int → Int) → Int → Prop) (G : Int → Int) (m : Int) (person lane age deep : Int) : Prop := 0 < rsum H (fcts N h lane (N 1) (N 9) 0 person age deep) G 2 m.toNat
section RO3
variable {X : Int → Int} {LX d bc bs n : Nat} {K : gm_K} {R : gm_R} {M M2 : gm_M} {Q : gm_Q} {l o dp p m : Int} {N h G : Int → Int} {H : (Int → Int) → Int → Prop} {FI : gm_M → Prop} {φ : Int → Int → Int → Int} {ψ : Int → Int → Int → Int → Prop}
/-- mayOpen of the reference, by what it answers -/
def MOR (X : Int → Int) (LX n : Nat) (K : gm_K) (R : gm_R) (N h : Int → Int) (FI : gm_M → Prop) (ψ : Int → Int → Int → Int → Prop) : Prop := ∀ (d bc bs : Nat) (M : gm_M) (Q : gm_Q) (person l dp : Int), 5 ≤ d → 0 ≤ l ∧ l < N 4 → TR N h M → FI M → (0 ≤ M 226 29 ∧ M 226 29 < 300) → M 237 (M 226 29) = dp → (ψ person ((N (119 + (l * 7 + 2)))) (N 9 - (N (119 + (l * 7 + 3)))) dp → ∀ M2, fr [(226, some 17), (226, some 18), (226, some 19), (226, some 20), (226, some 21), (226, some 22), (226, some 23), (233, none)] M M2 → Q (.inl (some (gm_vi 1))) n K R M2) → (¬ ψ person ((N (119 + (l * 7 + 2)))) (N 9 - (N (119 + (l * 7 + 3)))) dp → ∀ M2, fr [(226, some 17), (226, some 18), (226, some 19), (226, some 20), (226, some 21), (226, some 22), (226, some 23), (233, none)] M M2 → Q (.inl (some (gm_vi 0))) n K R M2) → gm_Wp X LX d bc bs 323 0 (gm_ent 323 [gm_vr 226, gm_vi person, gm_vi l]) [] n K R M Q
theorem re_mor (hE : E0 n K R) (hN : NR N) (hL : LG G m) (hH : HHL H G m) : MOR X LX n K R N h (fun M => ∀ j, (395 ≤ j ∨ j = 8) → M 227 j = G j) (rpsi N h H G m) := by
  intro d bc bs M Q person l dp hd h1 hT hG ho hdp q1 q0
  obtain ⟨⟨⟨a0, b0⟩, ⟨a1, b1⟩, ⟨a10, b10⟩, ⟨a11, b11⟩, ⟨a12, b12⟩, a9, b9⟩, ⟨⟨a2, b2⟩, ⟨a5, b5⟩, ⟨a3, b3⟩, ⟨a4, b4⟩, ⟨a6, b6⟩, ⟨a14, b14⟩, ⟨a7, b7⟩, a13, b13⟩, rF, rP, rL⟩ := id hN
  obtain ⟨-, -, r2, r3, -⟩ := rL l h1.1 h1.2
  have ln9 : 0 ≤ N (119 + (l * 7 + 2)) ∧ N (119 + (l * 7 + 2)) < N 0 := r2
  have yr9 : 0 ≤ N (119 + (l * 7 + 3)) ∧ N (119 + (l * 7 + 3)) ≤ N 9 := r3
  obtain ⟨m0, m1⟩ := hL.1.2.2
  refine gm_sz (gm_p_load (pc := 0) (i := .aload_n 0) (sr := 2) (j := 0) (by decide +kernel) rfl rfl rfl) ?_
  refine gm_sz (gm_p_load (pc := 1) (i := .aload_n 0) (sr := 2) (j := 0) (by decide +kernel) rfl rfl rfl) ?_
  refine gm_sz (gm_p_load (pc := 2) (i := .iload_n 2) (sr := 0) (j := 2) (by decide +kernel) rfl rfl rfl) ?_
  refine gm_sz (gm_p_const (pc := 3) (i := .iconst 2) (v := gm_vi 2) (by decide +kernel) (by decide +kernel)) ?_
  refine gm_c_virt (k := 226) (ci := 11) (mj := 301) (ix := 82) (pc := 4) (as := [gm_vi l, gm_vi 2]) (st := [gm_vr 226]) (d' := d - 1) (bc' := 0) (bs' := 0) (by decide +kernel) (by decide +kernel) (by decide +kernel) (by decide +kernel) (e0k hE (k := 226) (c := 11) (by decide +kernel)).1 (e0k hE (k := 226) (c := 11) (by decide +kernel)).2 (by decide) (by decide +kernel) (show 2 = gm_na 301 by decide +kernel) (fw_c2 fw_si fw_si) (show 3 ≤ gm_ml 301 by decide +kernel) (Nat.le_of_ble_eq_true rfl) (by omega) (Nat.zero_le _) (Nat.zero_le _) ?_
  refine re_ol hE hT hN ⟨by omega, by omega⟩ ⟨by omega, by omega⟩ ?_
  show gm_Wp X LX d _ _ 323 7 _ [gm_vi (N (119 + (l * 7 + 2))), gm_vr 226] n K _ _ Q
  refine gm_sz (fw_pi (pc := 7) (ix := 303) (ci := 11) (j := 17) (M' := gm_uM M 226 17 (N (119 + (l * 7 + 2)))) (by decide +kernel) (e0k hE (k := 226) (c := 11) (by decide +kernel)) (by decide +kernel) (by decide +kernel) (by decide +kernel) rfl) ?_
  refine gm_sz (gm_p_load (pc := 10) (i := .aload_n 0) (sr := 2) (j := 0) (by decide +kernel) rfl rfl rfl) ?_
  refine gm_sz (gm_p_load (pc := 11) (i := .aload_n 0) (sr := 2) (j := 0) (by decide +kernel) rfl rfl rfl) ?_
  refine gm_c_virt (k := 226) (ci := 11) (mj := 259) (ix := 94) (pc := 12) (as := []) (st := [gm_vr 226]) (d' := d - 1) (bc' := 0) (bs' := 0) (by decide +kernel) (by decide +kernel) (by decide +kernel) (by decide +kernel) (e0k hE (k := 226) (c := 11) (by decide +kernel)).1 (e0k hE (k := 226) (c := 11) (by decide +kernel)).2 (by decide) (by decide +kernel) (show 0 = gm_na 259 by decide +kernel) fw_c0 (show 1 ≤ gm_ml 259 by decide +kernel) (Nat.le_of_ble_eq_true rfl) (by omega) (Nat.zero_le _) (Nat.zero_le _) ?_
  refine re_lip hE (tr_fr (W := [(226, some 17)]) hT (fr_p fr_0 (Or.inr (by decide))) (by decide)) hN ?_
  show gm_Wp X LX d _ _ 323 15 _ [gm_vi (N 1), gm_vr 226] n K _ _ Q
  refine gm_sz (fw_pi (pc := 15) (ix := 306) (ci := 11) (j := 18) (M' := gm_uM (gm_uM M 226 17 (N (119 + (l * 7 + 2)))) 226 18 (N 1)) (by decide +kernel) (e0k hE (k := 226) (c := 11) (by decide +kernel)) (by decide +kernel) (by decide +kernel) (by decide +kernel) rfl) ?_
  refine gm_sz (gm_p_load (pc := 18) (i := .aload_n 0) (sr := 2) (j := 0) (by decide +kernel) rfl rfl rfl) ?_
  refine gm_sz (gm_p_load (pc := 19) (i := .aload_n 0) (sr := 2) (j := 0) (by decide +kernel) rfl rfl rfl) ?_
  refine gm_c_virt (k := 226) (ci := 11) (mj := 266) (ix := 162) (pc := 20) (as := []) (st := [gm_vr 226]) (d' := d - 1) (bc' := 0) (bs' := 0) (by decide +kernel) (by decide +kernel) (by decide +kernel) (by decide +kernel) (e0k hE (k := 226) (c := 11) (by decide +kernel)).1 (e0k hE (k := 226) (c := 11) (by decide +kernel)).2 (by decide) (by decide +kernel) (show 0 = gm_na 266 by decide +kernel) fw_c0 (show 1 ≤ gm_ml 266 by decide +kernel) (Nat.le_of_ble_eq_true rfl) (by omega) (Nat.zero_le _) (Nat.zero_le _) ?_
  refine re_now hE (tr_fr (W := [(226, some 17), (226, some 18)]) hT (fr_p (fr_p fr_0 (Or.inr (by decide))) (Or.inr (by decide))) (by decide)) hN ?_
  show gm_Wp X LX d _ _ 323 23 _ [gm_vi (N 9), gm_vr 226] n K _ _ Q
  refine gm_sz (fw_pi (pc := 23) (ix := 309) (ci := 11) (j := 19) (M' := gm_uM (gm_uM (gm_uM M 226 17 (N (119 + (l * 7 + 2)))) 226 18 (N 1)) 226 19 (N 9)) (by decide +kernel) (e0k hE (k := 226) (c := 11) (by decide +kernel)) (by decide +kernel) (by decide +kernel) (by decide +kernel) rfl) ?_
  refine gm_sz (gm_p_load (pc := 26) (i := .aload_n 0) (sr := 2) (j := 0) (by decide +kernel) rfl rfl rfl) ?_
  refine gm_sz (gm_p_const (pc := 27) (i := .iconst 0) (v := gm_vi 0) (by decide +kernel) (by decide +kernel)) ?_
  refine gm_sz (fw_pi (pc := 28) (ix := 312) (ci := 11) (j := 20) (M' := gm_uM (gm_uM (gm_uM (gm_uM M 226 17 (N (119 + (l * 7 + 2)))) 226 18 (N 1)) 226 19 (N 9)) 226 20 0) (by decide +kernel) (e0k hE (k := 226) (c := 11) (by decide +kernel)) (by decide +kernel) (by decide +kernel) (by decide +kernel) rfl) ?_
  refine gm_sz (gm_p_load (pc := 31) (i := .aload_n 0) (sr := 2) (j := 0) (by decide +kernel) rfl rfl rfl) ?_
  refine gm_sz (gm_p_load (pc := 32) (i := .iload_n 1) (sr := 0) (j := 1) (by decide +kernel) rfl rfl rfl) ?_
  refine gm_sz (fw_pi (pc := 33) (ix := 315) (ci := 11) (j := 21) (M' := gm_uM (gm_uM (gm_uM (gm_uM (gm_uM M 226 17 (N (119 + (l * 7 + 2)))) 226 18 (N 1)) 226 19 (N 9)) 226 20 0) 226 21 person) (by decide +kernel) (e0k hE (k := 226) (c := 11) (by decide +kernel)) (by decide +kernel) (by decide +kernel) (by decide +kernel) rfl) ?_
  refine gm_sz (gm_p_load (pc := 36) (i := .aload_n 0) (sr := 2) (j := 0) (by decide +kernel) rfl rfl rfl) ?_
  refine gm_sz (gm_p_load (pc := 37) (i := .aload_n 0) (sr := 2) (j := 0) (by decide +kernel) rfl rfl rfl) ?_
  refine gm_c_virt (k := 226) (ci := 11) (mj := 266) (ix := 162) (pc := 38) (as := []) (st := [gm_vr 226]) (d' := d - 1) (bc' := 0) (bs' := 0) (by decide +kernel) (by decide +kernel) (by decide +kernel) (by decide +kernel) (e0k hE (k := 226) (c := 11) (by decide +kernel)).1 (e0k hE (k := 226) (c := 11) (by decide +kernel)).2 (by decide) (by decide +kernel) (show 0 = gm_na 266 by decide +kernel) fw_c0 (show 1 ≤ gm_ml 266 by decide +kernel) (Nat.le_of_ble_eq_true rfl) (by omega) (Nat.zero_le _) (Nat.zero_le _) ?_
  refine re_now hE (tr_fr (W := [(226, some 17), (226, some 18), (226, some 19), (226, some 20), (226, some 21)]) hT (fr_p (fr_p (fr_p (fr_p (fr_p fr_0 (Or.inr (by decide))) (Or.inr (by decide))) (Or.inr (by decide))) (Or.inr (by decide))) (Or.inr (by decide))) (by decide)) hN ?_
  show gm_Wp X LX d _ _ 323 41 _ [gm_vi (N 9), gm_vr 226] n K _ _ Q
  refine gm_sz (gm_p_load (pc := 41) (i := .aload_n 0) (sr := 2) (j := 0) (by decide +kernel) rfl rfl rfl) ?_
  refine gm_sz (gm_p_load (pc := 42) (i := .iload_n 2) (sr := 0) (j := 2) (by decide +kernel) rfl rfl rfl) ?_
  refine gm_sz (gm_p_const (pc := 43) (i := .iconst 3) (v := gm_vi 3) (by decide +kernel) (by decide +kernel)) ?_
  refine gm_c_virt (k := 226) (ci := 11) (mj := 301) (ix := 82) (pc := 44) (as := [gm_vi l, gm_vi 3]) (st := [gm_vi (N 9), gm_vr 226]) (d' := d - 1) (bc' := 0) (bs' := 0) (by decide +kernel) (by decide +kernel) (by decide +kernel) (by decide +kernel) (e0k hE (k := 226) (c := 11) (by decide +kernel)).1 (e0k hE (k := 226) (c := 11) (by decide +kernel)).2 (by decide) (by decide +kernel) (show 2 = gm_na 301 by decide +kernel) (fw_c2 fw_si fw_si) (show 3 ≤ gm_ml 301 by decide +kernel) (Nat.le_of_ble_eq_true rfl) (by omega) (Nat.zero_le _) (Nat.zero_le _) ?_
  refine re_ol hE (tr_fr (W := [(226, some 17), (226, some 18), (226, some 19), (226, some 20), (226, some 21)]) hT (fr_p (fr_p (fr_p (fr_p (fr_p fr_0 (Or.inr (by decide))) (Or.inr (by decide))) (Or.inr (by decide))) (Or.inr (by decide))) (Or.inr (by decide))) (by decide)) hN ⟨by omega, by omega⟩ ⟨by omega, by omega⟩ ?_
  show gm_Wp X LX d _ _ 323 47 _ [gm_vi (N (119 + (l * 7 + 3))), gm_vi (N 9), gm_vr 226] n K _ _ Q
  refine gm_sz (gm_p_bin (pc := 47) (i := .isub) (f := fun x y => x - y) (by decide +kernel) rfl) ?_
  refine gm_sz (fw_pi (pc := 48) (ix := 318) (ci := 11) (j := 22) (M' := gm_uM (gm_uM (gm_uM (gm_uM (gm_uM (gm_uM M 226 17 (N (119 + (l * 7 + 2)))) 226 18 (N 1)) 226 19 (N 9)) 226 20 0) 226 21 person) 226 22 ((N 9) - (N (119 + (l * 7 + 3))))) (by decide +kernel) (e0k hE (k := 226) (c := 11) (by decide +kernel)) (by decide +kernel) (by decide +kernel) (by decide +kernel) rfl) ?_
  refine gm_sz (gm_p_load (pc := 51) (i := .aload_n 0) (sr := 2) (j := 0) (by decide +kernel) rfl rfl rfl) ?_
  refine gm_sz (gm_p_load (pc := 52) (i := .aload_n 0) (sr := 2) (j := 0) (by decide +kernel) rfl rfl rfl) ?_
  refine gm_sz (fw_gr (pc := 53) (ix := 48) (ci := 11) (j := 28) (r := 237) (by decide +kernel) (e0k hE (k := 226) (c := 11) (by decide +kernel)) (by decide +kernel) (by decide +kernel) (e0r hE (k := 226) (j := 28) (r := 237) (by decide +kernel))) ?_
  refine gm_sz (gm_p_load (pc := 56) (i := .aload_n 0) (sr := 2) (j := 0) (by decide +kernel) rfl rfl rfl) ?_
  refine gm_sz (fw_gi (pc := 57) (ix := 368) (ci := 11) (j := 29) (x := M 226 29) (by decide +kernel) (e0k hE (k := 226) (c := 11) (by decide +kernel)) (by decide +kernel) (by decide +kernel) ((uM_ne (by omega)).trans ((uM_ne (by omega)).trans ((uM_ne (by omega)).trans ((uM_ne (by omega)).trans ((uM_ne (by omega)).trans ((uM_ne (by omega)).trans rfl))))))) ?_
  refine gm_sz (fw_ia (pc := 60) (k := 237) (len := 300) (e0 := M 226 29) (x := dp) (by decide +kernel) (e0a hE (k := 237) (q := (0, 300)) (by decide +kernel)).1 (e0a hE (k := 237) (q := (0, 300)) (by decide +kernel)).2 (by decide) ⟨by omega, by omega⟩ ((uM_ne (by omega)).trans ((uM_ne (by omega)).trans ((uM_ne (by omega)).trans ((uM_ne (by omega)).trans ((uM_ne (by omega)).trans ((uM_ne (by omega)).trans hdp))))))) ?_
  refine gm_sz (fw_pi (pc := 61) (ix := 321) (ci := 11) (j := 23) (M' := gm_uM (gm_uM (gm_uM (gm_uM (gm_uM (gm_uM (gm_uM M 226 17 (N (119 + (l * 7 + 2)))) 226 18 (N 1)) 226 19 (N 9)) 226 20 0) 226 21 person) 226 22 ((N 9) - (N (119 + (l * 7 + 3))))) 226 23 dp) (by decide +kernel) (e0k hE (k := 226) (c := 11) (by decide +kernel)) (by decide +kernel) (by decide +kernel) (by decide +kernel) rfl) ?_
  refine gm_sz (gm_p_load (pc := 64) (i := .aload_n 0) (sr := 2) (j := 0) (by decide +kernel) rfl rfl rfl) ?_
  refine gm_sz (gm_p_const (pc := 65) (i := .iconst 2) (v := gm_vi 2) (by decide +kernel) (by decide +kernel)) ?_
  refine gm_c_virt (k := 226) (ci := 11) (mj := 294) (ix := 341) (pc := 66) (as := [gm_vi 2]) (st := []) (d' := d - 1) (bc' := 0) (bs' := 0) (by decide +kernel) (by decide +kernel) (by decide +kernel) (by decide +kernel) (e0k hE (k := 226) (c := 11) (by decide +kernel)).1 (e0k hE (k := 226) (c := 11) (by decide +kernel)).2 (by decide) (by decide +kernel) (show 1 = gm_na 294 by decide +kernel) (fw_c1 fw_si) (show 2 ≤ gm_ml 294 by decide +kernel) (Nat.le_of_ble_eq_true rfl) (by omega) (Nat.zero_le _) (Nat.zero_le _) ?_
  refine re_c294 (kd := 2) (m := m) (H := H) (by omega) hE (tr_fr (W := [(226, some 17), (226, some 18), (226, some 19), (226, some 20), (226, some 21), (226, some 22), (226, some 23)]) hT (fr_p (fr_p (fr_p (fr_p (fr_p (fr_p (fr_p fr_0 (Or.inr (by decide))) (Or.inr (by decide))) (Or.inr (by decide))) (Or.inr (by decide))) (Or.inr (by decide))) (Or.inr (by decide))) (Or.inr (by decide))) (by decide)) hN (fun j hj => ((uM_ne (by omega)).trans ((uM_ne (by omega)).trans ((uM_ne (by omega)).trans ((uM_ne (by omega)).trans ((uM_ne (by omega)).trans ((uM_ne (by omega)).trans ((uM_ne (by omega)).trans (hG j hj))))))))) ((uM_ne (by omega)).trans ((uM_ne (by omega)).trans ((uM_ne (by omega)).trans ((uM_ne (by omega)).trans ((uM_ne (by omega)).trans ((uM_ne (by omega)).trans uM_at)))))) ((uM_ne (by omega)).trans ((uM_ne (by omega)).trans ((uM_ne (by omega)).trans ((uM_ne (by omega)).trans ((uM_ne (by omega)).trans uM_at))))) ((uM_ne (by omega)).trans ((uM_ne (by omega)).trans ((uM_ne (by omega)).trans ((uM_ne (by omega)).trans uM_at)))) ((uM_ne (by omega)).trans ((uM_ne (by omega)).trans ((uM_ne (by omega)).trans uM_at))) ((uM_ne (by omega)).trans ((uM_ne (by omega)).trans uM_at)) ((uM_ne (by omega)).trans uM_at) uM_at ⟨by omega, by omega⟩ ⟨by omega, by omega⟩ hL hH ⟨by decide, by decide⟩ (fun M66 hf66 => ?_)
  show gm_Wp X LX d _ _ 323 69 _ [gm_vi (rsum H (fcts N h (N (119 + (l * 7 + 2))) (N 1) (N 9) 0 person (N 9 - N (119 + (l * 7 + 3))) dp) G 2 m.toNat)] n K _ _ Q
  have hb66 := rsum_b (H := H) (F := (fcts N h (N (119 + (l * 7 + 2))) (N 1) (N 9) 0 person (N 9 - N (119 + (l * 7 + 3))) dp)) (kd := 2) hL m.toNat (by omega)
  refine fw_if (cc := .le) (pc := 69) (off := 7) (by decide +kernel) (by decide) ⟨by omega, by omega⟩ (fun h69 => ?_) (fun h69 => ?_)
  · have h69 : (rsum H (fcts N h (N (119 + (l * 7 + 2))) (N 1) (N 9) 0 person (N 9 - N (119 + (l * 7 + 3))) dp) G 2 m.toNat) ≤ 0 := h69
    refine gm_sz (gm_p_const (pc := 76) (i := .iconst 0) (v := gm_vi 0) (by decide +kernel) (by decide +kernel)) ?_
    exact gm_r_int (pc := 77) (by decide +kernel) (Or.inr ⟨(by decide +kernel), Or.inl rfl⟩) (q0 (fun hh => by have hh : 0 < rsum H (fcts N h (N (119 + (l * 7 + 2))) (N 1) (N 9) 0 person (N 9 - N (119 + (l * 7 + 3))) dp) G 2 m.toNat := hh; omega) _ (fr_t (fr_p (fr_p (fr_p (fr_p (fr_p (fr_p (fr_p fr_0 (Or.inr (by decide))) (Or.inr (by decide))) (Or.inr (by decide))) (Or.inr (by decide))) (Or.inr (by decide))) (Or.inr (by decide))) (Or.inr (by decide))) hf66 (by decide)))
  · have h69 : ¬ (rsum H (fcts N h (N (119 + (l * 7 + 2))) (N 1) (N 9) 0 person (N 9 - N (119 + (l * 7 + 3))) dp) G 2 m.toNat) ≤ 0 := h69
    refine gm_sz (gm_p_const (pc := 72) (i := .iconst 1) (v := gm_vi 1) (by decide +kernel) (by decide +kernel)) ?_
    refine gm_sz (gm_p_goto (pc := 73) (off := 4) (by decide +kernel) (by decide)) ?_
    exact gm_r_int (pc := 77) (by decide +kernel) (Or.inr ⟨(by decide +kernel), Or.inr rfl⟩) (q1 (show rpsi N h H G m person ((N (119 + (l * 7 + 2)))) (N 9 - (N (119 + (l * 7 + 3)))) dp from (by have := h69; show 0 < _; omega)) _ (fr_t (fr_p (fr_p (fr_p (fr_p (fr_p (fr_p (fr_p fr_0 (Or.inr (by decide))) (Or.inr (by decide))) (Or.inr (by decide))) (Or.inr (by decide))) (Or.inr (by decide))) (Or.inr (by decide))) (Or.inr (by decide))) hf66 (by decide)))
theorem re_mor0 (hE : E0 n K R) (hN : NR N) (h8 : G 8 = 0) : MOR X LX n K R N h (fun M => ∀ j, (395 ≤ j ∨ j = 8) → M 227 j = G j) (fun _ _ _ _ => False) := by
  intro d bc bs M Q person l dp hd h1 hT hG ho hdp q1 q0
  obtain ⟨⟨⟨a0, b0⟩, ⟨a1, b1⟩, ⟨a10, b10⟩, ⟨a11, b11⟩, ⟨a12, b12⟩, a9, b9⟩, ⟨⟨a2, b2⟩, ⟨a5, b5⟩, ⟨a3, b3⟩, ⟨a4, b4⟩, ⟨a6, b6⟩, ⟨a14, b14⟩, ⟨a7, b7⟩, a13, b13⟩, rF, rP, rL⟩ := id hN
  obtain ⟨-, -, r2, r3, -⟩ := rL l h1.1 h1.2
  have ln9 : 0 ≤ N (119 + (l * 7 + 2)) ∧ N (119 + (l * 7 + 2)) < N 0 := r2
  have yr9 : 0 ≤ N (119 + (l * 7 + 3)) ∧ N (119 + (l * 7 + 3)) ≤ N 9 := r3
  refine gm_sz (gm_p_load (pc := 0) (i := .aload_n 0) (sr := 2) (j := 0) (by decide +kernel) rfl rfl rfl) ?_
  refine gm_sz (gm_p_load (pc := 1) (i := .aload_n 0) (sr := 2) (j := 0) (by decide +kernel) rfl rfl rfl) ?_
  refine gm_sz (gm_p_load (pc := 2) (i := .iload_n 2) (sr := 0) (j := 2) (by decide +kernel) rfl rfl rfl) ?_
  refine gm_sz (gm_p_const (pc := 3) (i := .iconst 2) (v := gm_vi 2) (by decide +kernel) (by decide +kernel)) ?_
  refine gm_c_virt (k := 226) (ci := 11) (mj := 301) (ix := 82) (pc := 4) (as := [gm_vi l, gm_vi 2]) (st := [gm_vr 226]) (d' := d - 1) (bc' := 0) (bs' := 0) (by decide +kernel) (by decide +kernel) (by decide +kernel) (by decide +kernel) (e0k hE (k := 226) (c := 11) (by decide +kernel)).1 (e0k hE (k := 226) (c := 11) (by decide +kernel)).2 (by decide) (by decide +kernel) (show 2 = gm_na 301 by decide +kernel) (fw_c2 fw_si fw_si) (show 3 ≤ gm_ml 301 by decide +kernel) (Nat.le_of_ble_eq_true rfl) (by omega) (Nat.zero_le _) (Nat.zero_le _) ?_
  refine re_ol hE hT hN ⟨by omega, by omega⟩ ⟨by omega, by omega⟩ ?_
  show gm_Wp X LX d _ _ 323 7 _ [gm_vi (N (119 + (l * 7 + 2))), gm_vr 226] n K _ _ Q
  refine gm_sz (fw_pi (pc := 7) (ix := 303) (ci := 11) (j := 17) (M' := gm_uM M 226 17 (N (119 + (l * 7 + 2)))) (by decide +kernel) (e0k hE (k := 226) (c := 11) (by decide +kernel)) (by decide +kernel) (by decide +kernel) (by decide +kernel) rfl) ?_
  refine gm_sz (gm_p_load (pc := 10) (i := .aload_n 0) (sr := 2) (j := 0) (by decide +kernel) rfl rfl rfl) ?_
  refine gm_sz (gm_p_load (pc := 11) (i := .aload_n 0) (sr := 2) (j := 0) (by decide +kernel) rfl rfl rfl) ?_
  refine gm_c_virt (k := 226) (ci := 11) (mj := 259) (ix := 94) (pc := 12) (as := []) (st := [gm_vr 226]) (d' := d - 1) (bc' := 0) (bs' := 0) (by decide +kernel) (by decide +kernel) (by decide +kernel) (by decide +kernel) (e0k hE (k := 226) (c := 11) (by decide +kernel)).1 (e0k hE (k := 226) (c := 11) (by decide +kernel)).2 (by decide) (by decide +kernel) (show 0 = gm_na 259 by decide +kernel) fw_c0 (show 1 ≤ gm_ml 259 by decide +kernel) (Nat.le_of_ble_eq_true rfl) (by omega) (Nat.zero_le _) (Nat.zero_le _) ?_
  refine re_lip hE (tr_fr (W := [(226, some 17)]) hT (fr_p fr_0 (Or.inr (by decide))) (by decide)) hN ?_
  show gm_Wp X LX d _ _ 323 15 _ [gm_vi (N 1), gm_vr 226] n K _ _ Q
  refine gm_sz (fw_pi (pc := 15) (ix := 306) (ci := 11) (j := 18) (M' := gm_uM (gm_uM M 226 17 (N (119 + (l * 7 + 2)))) 226 18 (N 1)) (by decide +kernel) (e0k hE (k := 226) (c := 11) (by decide +kernel)) (by decide +kernel) (by decide +kernel) (by decide +kernel) rfl) ?_
  refine gm_sz (gm_p_load (pc := 18) (i := .aload_n 0) (sr := 2) (j := 0) (by decide +kernel) rfl rfl rfl) ?_
  refine gm_sz (gm_p_load (pc := 19) (i := .aload_n 0) (sr := 2) (j := 0) (by decide +kernel) rfl rfl rfl) ?_
  refine gm_c_virt (k := 226) (ci := 11) (mj := 266) (ix := 162) (pc := 20) (as := []) (st := [gm_vr 226]) (d' := d - 1) (bc' := 0) (bs' := 0) (by decide +kernel) (by decide +kernel) (by decide +kernel) (by decide +kernel) (e0k hE (k := 226) (c := 11) (by decide +kernel)).1 (e0k hE (k := 226) (c := 11) (by decide +kernel)).2 (by decide) (by decide +kernel) (show 0 = gm_na 266 by decide +kernel) fw_c0 (show 1 ≤ gm_ml 266 by decide +kernel) (Nat.le_of_ble_eq_true rfl) (by omega) (Nat.zero_le _) (Nat.zero_le _) ?_
  refine re_now hE (tr_fr (W := [(226, some 17), (226, some 18)]) hT (fr_p (fr_p fr_0 (Or.inr (by decide))) (Or.inr (by decide))) (by decide)) hN ?_
  show gm_Wp X LX d _ _ 323 23 _ [gm_vi (N 9), gm_vr 226] n K _ _ Q
  refine gm_sz (fw_pi (pc := 23) (ix := 309) (ci := 11) (j := 19) (M' := gm_uM (gm_uM (gm_uM M 226 17 (N (119 + (l * 7 + 2)))) 226 18 (N 1)) 226 19 (N 9)) (by decide +kernel) (e0k hE (k := 226) (c := 11) (by decide +kernel)) (by decide +kernel) (by decide +kernel) (by decide +kernel) rfl) ?_
  refine gm_sz (gm_p_load (pc := 26) (i := .aload_n 0) (sr := 2) (j := 0) (by decide +kernel) rfl rfl rfl) ?_
  refine gm_sz (gm_p_const (pc := 27) (i := .iconst 0) (v := gm_vi 0) (by decide +kernel) (by decide +kernel)) ?_
  refine gm_sz (fw_pi (pc := 28) (ix := 312) (ci := 11) (j := 20) (M' := gm_uM (gm_uM (gm_uM (gm_uM M 226 17 (N (119 + (l * 7 + 2)))) 226 18 (N 1)) 226 19 (N 9)) 226 20 0) (by decide +kernel) (e0k hE (k := 226) (c := 11) (by decide +kernel)) (by decide +kernel) (by decide +kernel) (by decide +kernel) rfl) ?_
  refine gm_sz (gm_p_load (pc := 31) (i := .aload_n 0) (sr := 2) (j := 0) (by decide +kernel) rfl rfl rfl) ?_
  refine gm_sz (gm_p_load (pc := 32) (i := .iload_n 1) (sr := 0) (j := 1) (by decide +kernel) rfl rfl rfl) ?_
  refine gm_sz (fw_pi (pc := 33) (ix := 315) (ci := 11) (j := 21) (M' := gm_uM (gm_uM (gm_uM (gm_uM (gm_uM M 226 17 (N (119 + (l * 7 + 2)))) 226 18 (N 1)) 226 19 (N 9)) 226 20 0) 226 21 person) (by decide +kernel) (e0k hE (k := 226) (c := 11) (by decide +kernel)) (by decide +kernel) (by decide +kernel) (by decide +kernel) rfl) ?_
  refine gm_sz (gm_p_load (pc := 36) (i := .aload_n 0) (sr := 2) (j := 0) (by decide +kernel) rfl rfl rfl) ?_
  refine gm_sz (gm_p_load (pc := 37) (i := .aload_n 0) (sr := 2) (j := 0) (by decide +kernel) rfl rfl rfl) ?_
  refine gm_c_virt (k := 226) (ci := 11) (mj := 266) (ix := 162) (pc := 38) (as := []) (st := [gm_vr 226]) (d' := d - 1) (bc' := 0) (bs' := 0) (by decide +kernel) (by decide +kernel) (by decide +kernel) (by decide +kernel) (e0k hE (k := 226) (c := 11) (by decide +kernel)).1 (e0k hE (k := 226) (c := 11) (by decide +kernel)).2 (by decide) (by decide +kernel) (show 0 = gm_na 266 by decide +kernel) fw_c0 (show 1 ≤ gm_ml 266 by decide +kernel) (Nat.le_of_ble_eq_true rfl) (by omega) (Nat.zero_le _) (Nat.zero_le _) ?_
  refine re_now hE (tr_fr (W := [(226, some 17), (226, some 18), (226, some 19), (226, some 20), (226, some 21)]) hT (fr_p (fr_p (fr_p (fr_p (fr_p fr_0 (Or.inr (by decide))) (Or.inr (by decide))) (Or.inr (by decide))) (Or.inr (by decide))) (Or.inr (by decide))) (by decide)) hN ?_
  show gm_Wp X LX d _ _ 323 41 _ [gm_vi (N 9), gm_vr 226] n K _ _ Q
  refine gm_sz (gm_p_load (pc := 41) (i := .aload_n 0) (sr := 2) (j := 0) (by decide +kernel) rfl rfl rfl) ?_
  refine gm_sz (gm_p_load (pc := 42) (i := .iload_n 2) (sr := 0) (j := 2) (by decide +kernel) rfl rfl rfl) ?_
  refine gm_sz (gm_p_const (pc := 43) (i := .iconst 3) (v := gm_vi 3) (by decide +kernel) (by decide +kernel)) ?_
  refine gm_c_virt (k := 226) (ci := 11) (mj := 301) (ix := 82) (pc := 44) (as := [gm_vi l, gm_vi 3]) (st := [gm_vi (N 9), gm_vr 226]) (d' := d - 1) (bc' := 0) (bs' := 0) (by decide +kernel) (by decide +kernel) (by decide +kernel) (by decide +kernel) (e0k hE (k := 226) (c := 11) (by decide +kernel)).1 (e0k hE (k := 226) (c := 11) (by decide +kernel)).2 (by decide) (by decide +kernel) (show 2 = gm_na 301 by decide +kernel) (fw_c2 fw_si fw_si) (show 3 ≤ gm_ml 301 by decide +kernel) (Nat.le_of_ble_eq_true rfl) (by omega) (Nat.zero_le _) (Nat.zero_le _) ?_
  refine re_ol hE (tr_fr (W := [(226, some 17), (226, some 18), (226, some 19), (226, some 20), (226, some 21)]) hT (fr_p (fr_p (fr_p (fr_p (fr_p fr_0 (Or.inr (by decide))) (Or.inr (by decide))) (Or.inr (by decide))) (Or.inr (by decide))) (Or.inr (by decide))) (by decide)) hN ⟨by omega, by omega⟩ ⟨by omega, by omega⟩ ?_
  show gm_Wp X LX d _ _ 323 47 _ [gm_vi (N (119 + (l * 7 + 3))), gm_vi (N 9), gm_vr 226] n K _ _ Q
  refine gm_sz (gm_p_bin (pc := 47) (i := .isub) (f := fun x y => x - y) (by decide +kernel) rfl) ?_
  refine gm_sz (fw_pi (pc := 48) (ix := 318) (ci := 11) (j := 22) (M' := gm_uM (gm_uM (gm_uM (gm_uM (gm_uM (gm_uM M 226 17 (N (119 + (l * 7 + 2)))) 226 18 (N 1)) 226 19 (N 9)) 226 20 0) 226 21 person) 226 22 ((N 9) - (N (119 + (l * 7 + 3))))) (by decide +kernel) (e0k hE (k := 226) (c := 11) (by decide +kernel)) (by decide +kernel) (by decide +kernel) (by decide +kernel) rfl) ?_
  refine gm_sz (gm_p_load (pc := 51) (i := .aload_n 0) (sr := 2) (j := 0) (by decide +kernel) rfl rfl rfl) ?_
  refine gm_sz (gm_p_load (pc := 52) (i := .aload_n 0) (sr := 2) (j := 0) (by decide +kernel) rfl rfl rfl) ?_
  refine gm_sz (fw_gr (pc := 53) (ix := 48) (ci := 11) (j := 28) (r := 237) (by decide +kernel) (e0k hE (k := 226) (c := 11) (by decide +kernel)) (by decide +kernel) (by decide +kernel) (e0r hE (k := 226) (j := 28) (r := 237) (by decide +kernel))) ?_
  refine gm_sz (gm_p_load (pc := 56) (i := .aload_n 0) (sr := 2) (j := 0) (by decide +kernel) rfl rfl rfl) ?_
  refine gm_sz (fw_gi (pc := 57) (ix := 368) (ci := 11) (j := 29) (x := M 226 29) (by decide +kernel) (e0k hE (k := 226) (c := 11) (by decide +kernel)) (by decide +kernel) (by decide +kernel) ((uM_ne (by omega)).trans ((uM_ne (by omega)).trans ((uM_ne (by omega)).trans ((uM_ne (by omega)).trans ((uM_ne (by omega)).trans ((uM_ne (by omega)).trans rfl))))))) ?_
  refine gm_sz (fw_ia (pc := 60) (k := 237) (len := 300) (e0 := M 226 29) (x := dp) (by decide +kernel) (e0a hE (k := 237) (q := (0, 300)) (by decide +kernel)).1 (e0a hE (k := 237) (q := (0, 300)) (by decide +kernel)).2 (by decide) ⟨by omega, by omega⟩ ((uM_ne (by omega)).trans ((uM_ne (by omega)).trans ((uM_ne (by omega)).trans ((uM_ne (by omega)).trans ((uM_ne (by omega)).trans ((uM_ne (by omega)).trans hdp))))))) ?_
  refine gm_sz (fw_pi (pc := 61) (ix := 321) (ci := 11) (j := 23) (M' := gm_uM (gm_uM (gm_uM (gm_uM (gm_uM (gm_uM (gm_uM M 226 17 (N (119 + (l * 7 + 2)))) 226 18 (N 1)) 226 19 (N 9)) 226 20 0) 226 21 person) 226 22 ((N 9) - (N (119 + (l * 7 + 3))))) 226 23 dp) (by decide +kernel) (e0k hE (k := 226) (c := 11) (by decide +kernel)) (by decide +kernel) (by decide +kernel) (by decide +kernel) rfl) ?_
  refine gm_sz (gm_p_load (pc := 64) (i := .aload_n 0) (sr := 2) (j := 0) (by decide +kernel) rfl rfl rfl) ?_
  refine gm_sz (gm_p_const (pc := 65) (i := .iconst 2) (v := gm_vi 2) (by decide +kernel) (by decide +kernel)) ?_
  refine gm_c_virt (k := 226) (ci := 11) (mj := 294) (ix := 341) (pc := 66) (as := [gm_vi 2]) (st := []) (d' := d - 1) (bc' := 0) (bs' := 0) (by decide +kernel) (by decide +kernel) (by decide +kernel) (by decide +kernel) (e0k hE (k := 226) (c := 11) (by decide +kernel)).1 (e0k hE (k := 226) (c := 11) (by decide +kernel)).2 (by decide) (by decide +kernel) (show 1 = gm_na 294 by decide +kernel) (fw_c1 fw_si) (show 2 ≤ gm_ml 294 by decide +kernel) (Nat.le_of_ble_eq_true rfl) (by omega) (Nat.zero_le _) (Nat.zero_le _) ?_
  refine re_c294n (kd := 2) hE ((uM_ne (by omega)).trans ((uM_ne (by omega)).trans ((uM_ne (by omega)).trans ((uM_ne (by omega)).trans ((uM_ne (by omega)).trans ((uM_ne (by omega)).trans ((uM_ne (by omega)).trans ((hG _ (by omega)).trans h8)))))))) ?_
  show gm_Wp X LX d _ _ 323 69 _ [gm_vi 0] n K _ _ Q
  refine fw_iftd (cc := .le) (pc := 69) (off := 7) (by decide +kernel) (by decide) ⟨by decide, by decide⟩ (by decide) ?_
  refine gm_sz (gm_p_const (pc := 76) (i := .iconst 0) (v := gm_vi 0) (by decide +kernel) (by decide +kernel)) ?_
  exact gm_r_int (pc := 77) (by decide +kernel) (Or.inr ⟨(by decide +kernel), Or.inl rfl⟩) (q0 (fun hh => hh) _ (fr_p (fr_p (fr_p (fr_p (fr_p (fr_p (fr_p fr_0 (Or.inr (by decide))) (Or.inr (by decide))) (Or.inr (by decide))) (Or.inr (by decide))) (Or.inr (by decide))) (Or.inr (by decide))) (Or.inr (by decide))))
theorem ro_l (hd : 6 ≤ d) (hE : E0 n K R) (hT : TR N h M) (hN : NR N) (hst : RSt FI) (hmo : MOR X LX n K R N h FI ψ) (hI : FI M) (h1 : 0 ≤ l ∧ l < N 4) (hr : 0 ≤ (N (119 + (l * 7 + 0)))) (h29 : 0 ≤ M 226 29 ∧ M 226 29 < 300) (hdp : M 237 (M 226 29) = dp) (hne : ¬ (N (95 + (((N (119 + (l * 7 + 1)))) * 3 + 2))) = (N (119 + (l * 7 + 2)))) (hq : ∀ M2, fr [(226, some 17), (226, some 18), (226, some 19), (226, some 20), (226, some 21), (226, some 22), (226, some 23), (233, none)] M M2 → Q (.inl (some (gm_vi (opf N ψ l dp)))) n K R M2) : ∀ (u i : Nat) (M1 : gm_M), (i : Int) + (u : Int) = N 3 → fr [(226, some 17), (226, some 18), (226, some 19), (226, some 20), (226, some 21), (226, some 22), (226, some 23), (233, none)] M M1 → fo (wop N ψ l dp) (N 3).toNat 0 = fo (wop N ψ l dp) u (i : Int) → gm_Wp X LX d bc bs 322 31 [some (gm_vr 226), some (gm_vi l), some (gm_vi (N (119 + (l * 7 + 2)))), some (gm_vi (i : Int))] [] n K R M1 Q := by
  obtain ⟨⟨⟨a0, b0⟩, ⟨a1, b1⟩, ⟨a10, b10⟩, ⟨a11, b11⟩, ⟨a12, b12⟩, a9, b9⟩, ⟨⟨a2, b2⟩, ⟨a5, b5⟩, ⟨a3, b3⟩, ⟨a4, b4⟩, ⟨a6, b6⟩, ⟨a14, b14⟩, ⟨a7, b7⟩, a13, b13⟩, rF, rP, rL⟩ := id hN
  obtain ⟨r0, r1, r2, r3, -, -, -, r7⟩ := rL l h1.1 h1.2
  have r8 := r7 hr
  have to9 : 0 ≤ N (119 + (l * 7 + 1)) ∧ N (119 + (l * 7 + 1)) < N 3 := ⟨r8, r1.2⟩
  have ln9 : 0 ≤ N (119 + (l * 7 + 2)) ∧ N (119 + (l * 7 + 2)) < N 0 := r2
  have e9 : opf N ψ l dp = fo (wop N ψ l dp) (N 3).toNat 0 := tif_f hne
  rw [e9] at hq
  intro u
  induction u with
  | zero =>
    intro i M1 hi hf he
    have he : fo (wop N ψ l dp) (N 3).toNat 0 = -1 := he
    rw [he] at hq
    refine gm_sz (gm_p_load (pc := 31) (i := .iload_n 3) (sr := 0) (j := 3) (by decide +kernel) rfl rfl rfl) ?_
    refine gm_sz (gm_p_load (pc := 32) (i := .aload_n 0) (sr := 2) (j := 0) (by decide +kernel) rfl rfl rfl) ?_
    refine gm_c_virt (k := 226) (ci := 11) (mj := 253) (ix := 97) (pc := 33) (as := []) (st := [gm_vi (i : Int)]) (d' := d - 1) (bc' := 0) (bs' := 0) (by decide +kernel) (by decide +kernel) (by decide +kernel) (by decide +kernel) (e0k hE (k := 226) (c := 11) (by decide +kernel)).1 (e0k hE (k := 226) (c := 11) (by decide +kernel)).2 (by decide) (by decide +kernel) (show 0 = gm_na 253 by decide +kernel) fw_c0 (show 1 ≤ gm_ml 253 by decide +kernel) (Nat.le_of_ble_eq_true rfl) (by omega) (Nat.zero_le _) (Nat.zero_le _) ?_
    refine re_peo hE (tr_fr (W := [(226, some 17), (226, some 18), (226, some 19), (226, some 20), (226, some 21), (226, some 22), (226, some 23), (233, none)]) hT (fr_t fr_0 hf (by decide)) (by decide)) hN ?_
    show gm_Wp X LX d _ _ 322 36 _ [gm_vi (N 3), gm_vi (i : Int)] n K _ _ Q
    refine fw_ict (cc := .ge) (pc := 36) (off := 30) (by decide +kernel) (by decide) ⟨by omega, by omega⟩ ⟨by omega, by omega⟩ (show (N 3) ≤ (i : Int) by omega) ?_
    refine gm_sz (gm_p_const (pc := 66) (i := .iconst (-1)) (v := gm_vi (-1)) (by decide +kernel) (by decide +kernel)) ?_
    exact gm_r_int (pc := 67) (by decide +kernel) (Or.inl (by decide +kernel)) (hq M1 hf)
  | succ u ih =>
    intro i M1 hi hf he
    obtain ⟨-, -, p2⟩ := rP (i : Int) (by omega) (by omega)
    have p9 : -1 ≤ N (95 + ((i : Int) * 3 + 2)) ∧ N (95 + ((i : Int) * 3 + 2)) < N 0 := p2
    have he : fo (wop N ψ l dp) (N 3).toNat 0 = tif ((wop N ψ l dp) (i : Int)) (i : Int) (fo (wop N ψ l dp) u ((i : Int) + 1)) := he
    refine gm_sz (gm_p_load (pc := 31) (i := .iload_n 3) (sr := 0) (j := 3) (by decide +kernel) rfl rfl rfl) ?_
    refine gm_sz (gm_p_load (pc := 32) (i := .aload_n 0) (sr := 2) (j := 0) (by decide +kernel) rfl rfl rfl) ?_
    refine gm_c_virt (k := 226) (ci := 11) (mj := 253) (ix := 97) (pc := 33) (as := []) (st := [gm_vi (i : Int)]) (d' := d - 1) (bc' := 0) (bs' := 0) (by decide +kernel) (by decide +kernel) (by decide +kernel) (by decide +kernel) (e0k hE (k := 226) (c := 11) (by decide +kernel)).1 (e0k hE (k := 226) (c := 11) (by decide +kernel)).2 (by decide) (by decide +kernel) (show 0 = gm_na 253 by decide +kernel) fw_c0 (show 1 ≤ gm_ml 253 by decide +kernel) (Nat.le_of_ble_eq_true rfl) (by omega) (Nat.zero_le _) (Nat.zero_le _) ?_
    refine re_peo hE (tr_fr (W := [(226, some 17), (226, some 18), (226, some 19), (226, some 20), (226, some 21), (226, some 22), (226, some 23), (233, none)]) hT (fr_t fr_0 hf (by decide)) (by decide)) hN ?_
    show gm_Wp X LX d _ _ 322 36 _ [gm_vi (N 3), gm_vi (i : Int)] n K _ _ Q
    refine fw_icf (cc := .ge) (pc := 36) (off := 30) (by decide +kernel) (by decide) ⟨by omega, by omega⟩ ⟨by omega, by omega⟩ (show ¬ (N 3) ≤ (i : Int) by omega) ?_
    refine gm_sz (gm_p_load (pc := 39) (i := .aload_n 0) (sr := 2) (j := 0) (by decide +kernel) rfl rfl rfl) ?_
    refine gm_sz (gm_p_load (pc := 40) (i := .iload_n 3) (sr := 0) (j := 3) (by decide +kernel) rfl rfl rfl) ?_
    refine gm_sz (gm_p_const (pc := 41) (i := .iconst 2) (v := gm_vi 2) (by decide +kernel) (by decide +kernel)) ?_
    refine gm_c_virt (k := 226) (ci := 11) (mj := 299) (ix := 396) (pc := 42) (as := [gm_vi (i : Int), gm_vi 2]) (st := []) (d' := d - 1) (bc' := 0) (bs' := 0) (by decide +kernel) (by decide +kernel) (by decide +kernel) (by decide +kernel) (e0k hE (k := 226) (c := 11) (by decide +kernel)).1 (e0k hE (k := 226) (c := 11) (by decide +kernel)).2 (by decide) (by decide +kernel) (show 2 = gm_na 299 by decide +kernel) (fw_c2 fw_si fw_si) (show 3 ≤ gm_ml 299 by decide +kernel) (Nat.le_of_ble_eq_true rfl) (by omega) (Nat.zero_le _) (Nat.zero_le _) ?_
    refine re_of hE (tr_fr (W := [(226, some 17), (226, some 18), (226, some 19), (226, some 20), (226, some 21), (226, some 22), (226, some 23), (233, none)]) hT (fr_t fr_0 hf (by decide)) (by decide)) hN ⟨by omega, by omega⟩ ⟨by omega, by omega⟩ ?_
    show gm_Wp X LX d _ _ 322 45 _ [gm_vi (N (95 + ((i : Int) * 3 + 2)))] n K _ _ Q
    refine gm_sz (gm_p_load (pc := 45) (i := .iload_n 2) (sr := 0) (j := 2) (by decide +kernel) rfl rfl rfl) ?_
    refine fw_ic (cc := .ne) (pc := 46) (off := 14) (by decide +kernel) (by decide) ⟨by omega, by omega⟩ ⟨by omega, by omega⟩ (fun h46 => ?_) (fun h46 => ?_)
    · have h46 : ¬ (N (95 + ((i : Int) * 3 + 2))) = (N (119 + (l * 7 + 2))) := h46
      refine gm_sz (gm_p_iinc (pc := 60) (j := 3) (z := 1) (by decide +kernel) rfl) ?_
      refine gm_sz (gm_p_goto (pc := 63) (off := (-32)) (by decide +kernel) (by decide)) ?_
      rw [tif_f (show ¬ (wop N ψ l dp) (i : Int) from (fun hh => h46 hh.1))] at he
      exact ih (i + 1) _ (by omega) (fr_t fr_0 hf (by decide)) he
    · have h46 : (N (95 + ((i : Int) * 3 + 2))) = (N (119 + (l * 7 + 2))) := Classical.not_not.mp h46
      refine gm_sz (gm_p_load (pc := 49) (i := .aload_n 0) (sr := 2) (j := 0) (by decide +kernel) rfl rfl rfl) ?_
      refine gm_sz (gm_p_load (pc := 50) (i := .iload_n 3) (sr := 0) (j := 3) (by decide +kernel) rfl rfl rfl) ?_
      refine gm_sz (gm_p_load (pc := 51) (i := .iload_n 1) (sr := 0) (j := 1) (by decide +kernel) rfl rfl rfl) ?_
      refine gm_c_virt (k := 226) (ci := 11) (mj := 323) (ix := 417) (pc := 52) (as := [gm_vi (i : Int), gm_vi l]) (st := []) (d' := d - 1) (bc' := 0) (bs' := 0) (by decide +kernel) (by decide +kernel) (by decide +kernel) (by decide +kernel) (e0k hE (k := 226) (c := 11) (by decide +kernel)).1 (e0k hE (k := 226) (c := 11) (by decide +kernel)).2 (by decide) (by decide +kernel) (show 2 = gm_na 323 by decide +kernel) (fw_c2 fw_si fw_si) (show 3 ≤ gm_ml 323 by decide +kernel) (Nat.le_of_ble_eq_true rfl) (by omega) (Nat.zero_le _) (Nat.zero_le _) ?_
      refine hmo _ _ _ _ _ (i : Int) l dp (by omega) ⟨by omega, by omega⟩ (tr_fr (W := [(226, some 17), (226, some 18), (226, some 19), (226, some 20), (226, some 21), (226, some 22), (226, some 23), (233, none)]) hT (fr_t fr_0 hf (by decide)) (by decide)) (hst [(226, some 17), (226, some 18), (226, some 19), (226, some 20), (226, some 21), (226, some 22), (226, some 23), (233, none)] _ _ (by decide) (fr_t fr_0 hf (by decide)) hI) (by rw [show M1 226 29 = M 226 29 from (fr_j hf (by decide))]; exact h29) (by rw [show M1 226 29 = M 226 29 from (fr_j hf (by decide)), show M1 237 (M 226 29) = M 237 (M 226 29) from ((fr_c hf (by decide)).trans rfl)]; exact hdp) (fun v52 M52 hf52 => ?_) (fun v52 M52 hf52 => ?_)
      · show gm_Wp X LX d _ _ 322 55 _ [gm_vi 1] n K _ _ Q
        refine fw_iffd (cc := .eq) (pc := 55) (off := 5) (by decide +kernel) (by decide) ⟨by decide, by decide⟩ (by decide) ?_
        refine gm_sz (gm_p_load (pc := 58) (i := .iload_n 3) (sr := 0) (j := 3) (by decide +kernel) rfl rfl rfl) ?_
        rw [tif_t (show (wop N ψ l dp) (i : Int) from ⟨h46, v52⟩)] at he
        rw [he] at hq
        exact gm_r_int (pc := 59) (by decide +kernel) (Or.inl (by decide +kernel)) (hq _ (fr_t (fr_t fr_0 hf (by decide)) hf52 (by decide)))
      · show gm_Wp X LX d _ _ 322 55 _ [gm_vi 0] n K _ _ Q
        refine fw_iftd (cc := .eq) (pc := 55) (off := 5) (by decide +kernel) (by decide) ⟨by decide, by decide⟩ (by decide) ?_
        refine gm_sz (gm_p_iinc (pc := 60) (j := 3) (z := 1) (by decide +kernel) rfl) ?_
        refine gm_sz (gm_p_goto (pc := 63) (off := (-32)) (by decide +kernel) (by decide)) ?_
        rw [tif_f (show ¬ (wop N ψ l dp) (i : Int) from (fun hh => v52 hh.2))] at he
        exact ih (i + 1) _ (by omega) (fr_t (fr_t fr_0 hf (by decide)) hf52 (by decide)) he
theorem ro_c322 (hd : 6 ≤ d) (hE : E0 n K R) (hT : TR N h M) (hN : NR N) (hst : RSt FI) (hmo : MOR X LX n K R N h FI ψ) (hI : FI M) (h1 : 0 ≤ l ∧ l < N 4) (hr : 0 ≤ (N (119 + (l * 7 + 0)))) (h29 : 0 ≤ M 226 29 ∧ M 226 29 < 300) (hdp : M 237 (M 226 29) = dp) (hq : ∀ M2, fr [(226, some 17), (226, some 18), (226, some 19), (226, some 20), (226, some 21), (226, some 22), (226, some 23), (233, none)] M M2 → Q (.inl (some (gm_vi (opf N ψ l dp)))) n K R M2) : gm_Wp X LX d bc bs 322 0 (gm_ent 322 [gm_vr 226, gm_vi l]) [] n K R M Q := by
  obtain ⟨⟨⟨a0, b0⟩, ⟨a1, b1⟩, ⟨a10, b10⟩, ⟨a11, b11⟩, ⟨a12, b12⟩, a9, b9⟩, ⟨⟨a2, b2⟩, ⟨a5, b5⟩, ⟨a3, b3⟩, ⟨a4, b4⟩, ⟨a6, b6⟩, ⟨a14, b14⟩, ⟨a7, b7⟩, a13, b13⟩, rF, rP, rL⟩ := id hN
  obtain ⟨r0, r1, r2, r3, -, -, -, r7⟩ := rL l h1.1 h1.2
  have r8 := r7 hr
  have to9 : 0 ≤ N (119 + (l * 7 + 1)) ∧ N (119 + (l * 7 + 1)) < N 3 := ⟨r8, r1.2⟩
  have ln9 : 0 ≤ N (119 + (l * 7 + 2)) ∧ N (119 + (l * 7 + 2)) < N 0 := r2
  obtain ⟨-, -, p2⟩ := rP _ to9.1 to9.2
  have p9 : -1 ≤ N (95 + (N (119 + (l * 7 + 1)) * 3 + 2)) ∧ N (95 + (N (119 + (l * 7 + 1)) * 3 + 2)) < N 0 := p2
  refine gm_sz (gm_p_load (pc := 0) (i := .aload_n 0) (sr := 2) (j := 0) (by decide +kernel) rfl rfl rfl) ?_
  refine gm_sz (gm_p_load (pc := 1) (i := .iload_n 1) (sr := 0) (j := 1) (by decide +kernel) rfl rfl rfl) ?_
  refine gm_sz (gm_p_const (pc := 2) (i := .iconst 2) (v := gm_vi 2) (by decide +kernel) (by decide +kernel)) ?_
  refine gm_c_virt (k := 226) (ci := 11) (mj := 301) (ix := 82) (pc := 3) (as := [gm_vi l, gm_vi 2]) (st := []) (d' := d - 1) (bc' := 0) (bs' := 0) (by decide +kernel) (by decide +kernel) (by decide +kernel) (by decide +kernel) (e0k hE (k := 226) (c := 11) (by decide +kernel)).1 (e0k hE (k := 226) (c := 11) (by decide +kernel)).2 (by decide) (by decide +kernel) (show 2 = gm_na 301 by decide +kernel) (fw_c2 fw_si fw_si) (show 3 ≤ gm_ml 301 by decide +kernel) (Nat.le_of_ble_eq_true rfl) (by omega) (Nat.zero_le _) (Nat.zero_le _) ?_
  refine re_ol hE hT hN ⟨by omega, by omega⟩ ⟨by omega, by omega⟩ ?_
  show gm_Wp X LX d _ _ 322 6 _ [gm_vi (N (119 + (l * 7 + 2)))] n K _ _ Q
  refine gm_sz (gm_p_stor (pc := 6) (i := .istore_n 2) (sr := 0) (j := 2) (by decide +kernel) rfl (show 3 ≤ _ from Nat.le_of_ble_eq_true rfl) rfl) ?_
  refine gm_sz (gm_p_load (pc := 7) (i := .aload_n 0) (sr := 2) (j := 0) (by decide +kernel) rfl rfl rfl) ?_
  refine gm_sz (gm_p_load (pc := 8) (i := .aload_n 0) (sr := 2) (j := 0) (by decide +kernel) rfl rfl rfl) ?_
  refine gm_sz (gm_p_load (pc := 9) (i := .iload_n 1) (sr := 0) (j := 1) (by decide +kernel) rfl rfl rfl) ?_
  refine gm_sz (gm_p_const (pc := 10) (i := .iconst 1) (v := gm_vi 1) (by decide +kernel) (by decide +kernel)) ?_
  refine gm_c_virt (k := 226) (ci := 11) (mj := 301) (ix := 82) (pc := 11) (as := [gm_vi l, gm_vi 1]) (st := [gm_vr 226]) (d' := d - 1) (bc' := 0) (bs' := 0) (by decide +kernel) (by decide +kernel) (by decide +kernel) (by decide +kernel) (e0k hE (k := 226) (c := 11) (by decide +kernel)).1 (e0k hE (k := 226) (c := 11) (by decide +kernel)).2 (by decide) (by decide +kernel) (show 2 = gm_na 301 by decide +kernel) (fw_c2 fw_si fw_si) (show 3 ≤ gm_ml 301 by decide +kernel) (Nat.le_of_ble_eq_true rfl) (by omega) (Nat.zero_le _) (Nat.zero_le _) ?_
  refine re_ol hE hT hN ⟨by omega, by omega⟩ ⟨by omega, by omega⟩ ?_
  show gm_Wp X LX d _ _ 322 14 _ [gm_vi (N (119 + (l * 7 + 1))), gm_vr 226] n K _ _ Q
  refine gm_sz (gm_p_const (pc := 14) (i := .iconst 2) (v := gm_vi 2) (by decide +kernel) (by decide +kernel)) ?_
  refine gm_c_virt (k := 226) (ci := 11) (mj := 299) (ix := 396) (pc := 15) (as := [gm_vi (N (119 + (l * 7 + 1))), gm_vi 2]) (st := []) (d' := d - 1) (bc' := 0) (bs' := 0) (by decide +kernel) (by decide +kernel) (by decide +kernel) (by decide +kernel) (e0k hE (k := 226) (c := 11) (by decide +kernel)).1 (e0k hE (k := 226) (c := 11) (by decide +kernel)).2 (by decide) (by decide +kernel) (show 2 = gm_na 299 by decide +kernel) (fw_c2 fw_si fw_si) (show 3 ≤ gm_ml 299 by decide +kernel) (Nat.le_of_ble_eq_true rfl) (by omega) (Nat.zero_le _) (Nat.zero_le _) ?_
  refine re_of hE hT hN ⟨by omega, by omega⟩ ⟨by omega, by omega⟩ ?_
  show gm_Wp X LX d _ _ 322 18 _ [gm_vi (N (95 + ((N (119 + (l * 7 + 1))) * 3 + 2)))] n K _ _ Q
  refine gm_sz (gm_p_load (pc := 18) (i := .iload_n 2) (sr := 0) (j := 2) (by decide +kernel) rfl rfl rfl) ?_
  refine fw_ic (cc := .ne) (pc := 19) (off := 10) (by decide +kernel) (by decide) ⟨by omega, by omega⟩ ⟨by omega, by omega⟩ (fun h19 => ?_) (fun h19 => ?_)
  · have h19 : ¬ (N (95 + ((N (119 + (l * 7 + 1))) * 3 + 2))) = (N (119 + (l * 7 + 2))) := h19
    refine gm_sz (gm_p_const (pc := 29) (i := .iconst 0) (v := gm_vi 0) (by decide +kernel) (by decide +kernel)) ?_
    refine gm_sz (gm_p_stor (pc := 30) (i := .istore_n 3) (sr := 0) (j := 3) (by decide +kernel) rfl (show 4 ≤ _ from Nat.le_of_ble_eq_true rfl) rfl) ?_
    exact ro_l hd hE hT hN hst hmo hI h1 hr h29 hdp h19 hq (N 3).toNat 0 M (by omega) fr_0 rfl
  · have h19 : (N (95 + ((N (119 + (l * 7 + 1))) * 3 + 2))) = (N (119 + (l * 7 + 2))) := Classical.not_not.mp h19
    refine gm_sz (gm_p_load (pc := 22) (i := .aload_n 0) (sr := 2) (j := 0) (by decide +kernel) rfl rfl rfl) ?_
    refine gm_sz (gm_p_load (pc := 23) (i := .iload_n 1) (sr := 0) (j := 1) (by decide +kernel) rfl rfl rfl) ?_
    refine gm_sz (gm_p_const (pc := 24) (i := .iconst 1) (v := gm_vi 1) (by decide +kernel) (by decide +kernel)) ?_
    refine gm_c_virt (k := 226) (ci := 11) (mj := 301) (ix := 82) (pc := 25) (as := [gm_vi l, gm_vi 1]) (st := []) (d' := d - 1) (bc' := 0) (bs' := 0) (by decide +kernel) (by decide +kernel) (by decide +kernel) (by decide +kernel) (e0k hE (k := 226) (c := 11) (by decide +kernel)).1 (e0k hE (k := 226) (c := 11) (by decide +kernel)).2 (by decide) (by decide +kernel) (show 2 = gm_na 301 by decide +kernel) (fw_c2 fw_si fw_si) (show 3 ≤ gm_ml 301 by decide +kernel) (Nat.le_of_ble_eq_true rfl) (by omega) (Nat.zero_le _) (Nat.zero_le _) ?_
    refine re_ol hE hT hN ⟨by omega, by omega⟩ ⟨by omega, by omega⟩ ?_
    show gm_Wp X LX d _ _ 322 28 _ [gm_vi (N (119 + (l * 7 + 1)))] n K _ _ Q
    have e9 : opf N ψ l dp = N (119 + (l * 7 + 1)) := tif_t h19
    rw [e9] at hq
    exact gm_r_int (pc := 28) (by decide +kernel) (Or.inl (by decide +kernel)) (hq M fr_0)
end RO3
