/-! THE CLASS'S valley(), whole (laid by wip/core/v5.py). -/
section V5A
variable {X : Int → Int} {LX d bc bs n : Nat} {K : gm_K} {R : gm_R} {M : gm_M} {Q : gm_Q} {f : Int → Int} {e b x i l r w t9 f9 t z : Int} {N : Int → Int}
theorem tif_o {P : Prop} {a c : Bool × Int × (Int → Int)} (ha : a.2.2 i = z) (hb : c.2.2 i = z) : (tif P a c).2.2 i = z := tif_i (α := Bool × Int × (Int → Int)) (C := fun q => q.2.2 i = z) ha hb
theorem tif_h {P : Prop} {a c : Bool × Int × (Int → Int)} (ha : 0 ≤ a.2.1 ∧ a.2.1 ≤ e) (hb : 0 ≤ c.2.1 ∧ c.2.1 ≤ e) : 0 ≤ (tif P a c).2.1 ∧ (tif P a c).2.1 ≤ e := tif_i (α := Bool × Int × (Int → Int)) (C := fun q => 0 ≤ q.2.1 ∧ q.2.1 ≤ e) ha hb
theorem v_sp_o : ∀ (t : Nat) (N : Int → Int) (a b : Int), i < a → (v_sp f e t N a b).2.2 i = N i := by
  intro t
  induction t with
  | zero => exact fun _ _ _ _ => rfl
  | succ t ih =>
    intro N a b h
    show (tif _ _ _ : Bool × Int × (Int → Int)).2.2 i = N i
    refine tif_o ?_ rfl
    rw [ih _ _ _ (by omega)]
    exact nup_ne (by omega)
theorem nper_o (hi : i < 95) (h3 : ¬ i = 3) (h0 : 0 ≤ N 3) : nper N l r w i = N i := by
  unfold nper
  rw [nup_ne (by omega), nup_ne (by omega), nup_ne (by omega), nup_ne (by omega)]
/-- a line leaves the year and the number of texts -/
theorem v_line_o (hN : NR N) (hi : i = 7 ∨ i = 9) : (v_line f e N b).2.2 i = N i := by
  obtain ⟨a2, a5, a3, a4, a6, -⟩ := hN.2.1
  unfold v_line
  refine tif_o ?_ (tif_o ?_ (tif_o ?_ (tif_o ?_ (tif_o ?_ (tif_o ?_ (tif_o ?_ (tif_o ?_ (tif_o ?_ (tif_o ?_ rfl)))))))))
  · unfold v_lanes
    refine tif_o (tif_o ?_ rfl) rfl
    show nup _ _ _ i = N i
    rw [nup_ne (by omega), nup_ne (by omega)]
  · unfold v_last
    refine tif_o (tif_o ?_ rfl) rfl
    show nup _ _ _ i = N i
    rw [nup_ne (by omega), nup_ne (by omega)]
  · unfold v_section
    refine tif_o rfl (tif_o ?_ rfl)
    rw [v_sp_o _ _ _ _ (by omega), nup_ne (by omega), nup_ne (by omega)]
  · unfold v_snow
    refine tif_o (tif_o (tif_o ?_ rfl) rfl) rfl
    show nup _ _ _ i = N i
    rw [nup_ne (by omega), nup_ne (by omega)]
  · unfold v_stripe
    refine tif_o ?_ rfl
    exact nup_ne (by omega)
  · unfold v_seed
    refine tif_o ?_ rfl
    exact nup_ne (by omega)
  · unfold v_flood
    refine tif_o rfl (tif_o (tif_o (tif_o ?_ rfl) rfl) rfl)
    show nup _ _ _ i = N i
    rw [nup_ne (by omega), nup_ne (by omega), nup_ne (by omega), nup_ne (by omega)]
  · unfold v_person
    refine tif_o rfl (tif_o (tif_o (tif_o (tif_o ?_ rfl) ?_) rfl) rfl)
    · exact nper_o (by omega) (by omega) a3.1
    · exact nper_o (by omega) (by omega) a3.1
  · unfold v_rock
    refine tif_o rfl (tif_o (tif_o ?_ rfl) rfl)
    exact nthr_o ⟨by omega, by omega⟩ (by omega) a4.1
  · unfold v_table
    refine tif_o rfl ?_
    rw [v_sp_o _ _ _ _ (by omega), nup_ne (by omega)]
theorem v_txt_o (hi : i = 7 ∨ i = 9) : ∀ (t : Nat) (N : Int → Int) (b : Int), GI N → 0 ≤ b ∧ b ≤ e → (v_txt f e t N b).2.2 i = N i := by
  intro t
  induction t with
  | zero => exact fun _ _ _ _ => rfl
  | succ t ih =>
    intro N b h hb
    have q := v_line_b (f := f) (N := N) hb
    by_cases h1 : (v_line f e N b).1 = true
    · by_cases h2 : tx_k f e (v_line f e N b).2.1 = 256
      · rw [show v_txt f e (t + 1) N b = v_line f e N b by show tif _ _ _ = _; rw [tif_t h1, tif_t h2]]
        exact v_line_o h.1 hi
      · by_cases h3 : tx_k f e (v_line f e N b).2.1 = 59
        · rw [show v_txt f e (t + 1) N b = v_txt f e t (v_line f e N b).2.2 (tx_n f e (v_line f e N b).2.1) by show tif _ _ _ = _; rw [tif_t h1, tif_f h2, tif_t h3]]
          have n1 := tx_nb (f := f) q.2
          rw [ih _ _ (v_line_g h hb h1) ⟨by omega, n1.2.1⟩]
          exact v_line_o h.1 hi
        · rw [show v_txt f e (t + 1) N b = (false, (v_line f e N b).2.1, N) by show tif _ _ _ = _; rw [tif_t h1, tif_f h2, tif_f h3]]
    · rw [show v_txt f e (t + 1) N b = (false, (v_line f e N b).2.1, N) from tif_f h1]
theorem v_txt_b : ∀ (t : Nat) (N : Int → Int) (b : Int), 0 ≤ b ∧ b ≤ e → 0 ≤ (v_txt f e t N b).2.1 ∧ (v_txt f e t N b).2.1 ≤ e := by
  intro t
  induction t with
  | zero => exact fun _ _ hb => hb
  | succ t ih =>
    intro N b hb
    have q := v_line_b (f := f) (N := N) hb
    have n1 := tx_nb (f := f) q.2
    show 0 ≤ (tif _ _ _ : Bool × Int × (Int → Int)).2.1 ∧ (tif _ _ _ : Bool × Int × (Int → Int)).2.1 ≤ e
    exact tif_h (tif_h ⟨by omega, q.2⟩ (tif_h (ih _ _ ⟨by omega, n1.2.1⟩) ⟨by show 0 ≤ (v_line f e N b).2.1; omega, q.2⟩)) ⟨by show 0 ≤ (v_line f e N b).2.1; omega, q.2⟩
theorem v_val_b (he : 0 ≤ e) : 0 ≤ (v_val f e N).2.1 ∧ (v_val f e N).2.1 ≤ e := by
  obtain ⟨g1, g2, -⟩ := tx_gb (f := f) he
  unfold v_val
  exact tif_h ⟨g1, g2⟩ (v_txt_b _ _ _ ⟨g1, g2⟩)
theorem v_val_o (h : GI N) (he : 0 ≤ e) (hi : i = 7 ∨ i = 9) : (v_val f e N).2.2 i = N i := by
  obtain ⟨g1, g2, -⟩ := tx_gb (f := f) he
  unfold v_val
  exact tif_o rfl (v_txt_o hi _ _ _ h ⟨g1, g2⟩)
/-- a text more -/
theorem gi_7 (h : GI N) (hx : 0 ≤ x ∧ x ≤ 12) : GI (nup N 7 x) := by
  obtain ⟨hN, hS, hg⟩ := h
  obtain ⟨⟨⟨a0, b0⟩, ⟨a1, b1⟩, ⟨a10, b10⟩, ⟨a11, b11⟩, ⟨a12, b12⟩, a9, b9⟩, ⟨⟨a2, b2⟩, ⟨a5, b5⟩, ⟨a3, b3⟩, ⟨a4, b4⟩, ⟨a6, b6⟩, ⟨a14, b14⟩, ⟨a7, b7⟩, a13, b13⟩, rF, rP, rL⟩ := id hN
  have e : ∀ j, ¬ j = 7 → nup N 7 x j = N j := fun j h => nup_ne h
  have e7 : nup N 7 x 7 = x := nup_at
  refine ⟨?_, ns_same hS (e 0 (by decide)) (e 2 (by decide)) (fun j h1 h2 => e j (by omega)) b2 b0, ?_⟩
  · unfold NR
    rw [e 4 (by decide), e 0 (by decide), e 1 (by decide), e 10 (by decide), e 11 (by decide), e 12 (by decide), e 9 (by decide), e 2 (by decide), e 5 (by decide), e 3 (by decide), e 6 (by decide), e 14 (by decide), e7, e 13 (by decide)]
    refine ⟨⟨⟨a0, b0⟩, ⟨a1, b1⟩, ⟨a10, b10⟩, ⟨a11, b11⟩, ⟨a12, b12⟩, a9, b9⟩, ⟨⟨a2, b2⟩, ⟨a5, b5⟩, ⟨a3, b3⟩, ⟨a4, b4⟩, ⟨a6, b6⟩, ⟨a14, b14⟩, hx, a13, b13⟩, fun q h0 h1 => ?_, fun q h0 h1 => ?_, fun q h0 h1 => ?_⟩
    · rw [e (71 + (q * 3 + 0)) (by omega), e (71 + (q * 3 + 1)) (by omega), e (71 + (q * 3 + 2)) (by omega)]
      exact rF q h0 h1
    · rw [e (95 + (q * 3 + 0)) (by omega), e (95 + (q * 3 + 1)) (by omega), e (95 + (q * 3 + 2)) (by omega)]
      exact rP q h0 h1
    · rw [e (119 + (q * 7 + 0)) (by omega), e (119 + (q * 7 + 1)) (by omega), e (119 + (q * 7 + 2)) (by omega), e (119 + (q * 7 + 3)) (by omega), e (119 + (q * 7 + 4)) (by omega), e (119 + (q * 7 + 5)) (by omega), e (119 + (q * 7 + 6)) (by omega)]
      exact rL q h0 h1
  · show nup N 7 x 14 = nop (nup N 7 x) (nup N 7 x 4).toNat
    rw [e 14 (by decide), e 4 (by decide), nop_e (N := N) (N 4).toNat (fun u hu => by rw [e _ (by omega)])]
    exact hg
theorem vy_71 (hd : 14 ≤ d) (hbc : 4 ≤ bc) (hbs : 24 ≤ bs) (hE : E0 n K R) (hC : CST M) (hF : VF (M 2) (M 1 1)) (h4 : M 214 1 = 4) (h13 : M 213 1 = 14) (hT : cs M 3 = N) (hG : GI N) (q0 : ∀ M2, (∀ (x : Nat) (j : Int), x < 16 ∨ 28 < x → ¬ x = 214 → ¬ (x = 1 ∧ (j = 1 ∨ j = 2)) → M2 x j = M x j) → CST M2 → cs M2 3 = N → ¬ (v_val (M 2) (M 1 1) N).1 = true → M2 1 2 = (v_val (M 2) (M 1 1) N).2.1 → M2 1 1 = 0 → Q (.inr 0) n K (gm_uR R 16 8 (R 3 8)) M2) (q1 : ∀ M2, (∀ (x : Nat) (j : Int), x < 16 ∨ 28 < x → ¬ x = 214 → ¬ (x = 1 ∧ (j = 1 ∨ j = 2)) → M2 x j = M x j) → CST M2 → cs M2 3 = N → (v_val (M 2) (M 1 1) N).1 = true → N 7 = 12 → M2 1 2 = -1 → M2 1 1 = 0 → Q (.inr 1) n K (gm_uR R 16 8 (R 3 8)) M2) (hq : ∀ M2, (v_val (M 2) (M 1 1) N).1 = true → N 7 < 12 → GI (nup (v_val (M 2) (M 1 1) N).2.2 7 (N 7 + 1)) → TI (nup (v_val (M 2) (M 1 1) N).2.2 7 (N 7 + 1)) (hts ((nup (v_val (M 2) (M 1 1) N).2.2 7 (N 7 + 1)) 13)) (spd (nup (v_val (M 2) (M 1 1) N).2.2 7 (N 7 + 1))) M2 → M2 200 6 = 1 → M2 42 2 = 0 → M2 1 15 = 0 → M2 1 2 = -1 → M2 1 1 = 0 → (∀ (x : Nat) (j : Int), x < 3 ∨ 28 < x → ¬ x = 214 → ¬ x = 201 → ¬ x = 202 → ¬ x = 203 → ¬ (x = 200 ∧ j = 6) → ¬ (x = 42 ∧ j = 2) → ¬ (x = 1 ∧ (j = 1 ∨ j = 2 ∨ j = 15)) → M2 x j = M x j) → Q (.inl (some (gm_vi (N 7 + 1)))) n K (gm_uR (gm_uR R 16 8 (R 3 8)) 3 8 ((gm_uR R 16 8 (R 3 8)) 16 8)) M2) : gm_Wp X LX d bc bs 71 0 (gm_ent 71 [gm_vr 1]) [] n K R M Q := by
  have hN := hG.1
  have he9 := hF.1
  have b7 := hN.2.1.2.2.2.2.2.2.1
  have hvb := v_val_b (f := M 2) (e := M 1 1) (N := N) hF.1.1
  have v7 : (v_val (M 2) (M 1 1) N).2.2 7 = N 7 := v_val_o hG hF.1.1 (Or.inl rfl)
  have hVG : (v_val (M 2) (M 1 1) N).1 = true → GI (v_val (M 2) (M 1 1) N).2.2 := fun h => v_val_g hG hF.1.1 h
  refine gm_sz (gm_p_load (pc := 0) (i := .aload_n 0) (sr := 2) (j := 0) (by decide +kernel) rfl rfl rfl) ?_
  refine gm_sz (fw_gr (pc := 1) (ix := 27) (ci := 0) (j := 4) (r := 16) (by decide +kernel) (e0k hE (k := 1) (c := 0) (by decide +kernel)) (by decide +kernel) (by decide +kernel) (e0r hE (k := 1) (j := 4) (r := 16) (by decide +kernel))) ?_
  refine gm_sz (gm_p_load (pc := 4) (i := .aload_n 0) (sr := 2) (j := 0) (by decide +kernel) rfl rfl rfl) ?_
  refine gm_sz (fw_gr (pc := 5) (ix := 23) (ci := 0) (j := 3) (r := 3) (by decide +kernel) (e0k hE (k := 1) (c := 0) (by decide +kernel)) (by decide +kernel) (by decide +kernel) (e0r hE (k := 1) (j := 3) (r := 3) (by decide +kernel))) ?_
  refine gm_c_virt (k := 16) (ci := 1) (mj := 57) (ix := 114) (pc := 8) (as := [gm_vr 3]) (st := []) (d' := d - 1) (bc' := 0) (bs' := 0) (by decide +kernel) (by decide +kernel) (by decide +kernel) (by decide +kernel) (e0k hE (k := 16) (c := 1) (by decide +kernel)).1 (e0k hE (k := 16) (c := 1) (by decide +kernel)).2 (by decide) (by decide +kernel) (show 1 = gm_na 57 by decide +kernel) (fw_c1 fw_sr) (show 2 ≤ gm_ml 57 by decide +kernel) (Nat.le_of_ble_eq_true rfl) (by omega) (Nat.zero_le _) (Nat.zero_le _) ?_
  refine st_copy (b := 16) (s := 3) (by omega) (ks_16 hE) (ks_3 hE) (by omega) (mx_16 hC) (sz_cs hN hT) (fun M8 hx8 hy8 hc8 => ?_)
  show gm_Wp X LX d _ _ 71 11 _ [] n K _ _ Q
  have t8 : CST M8 := cst_cpy0 cst_cpd hC ⟨hx8, hy8, hc8⟩
  have e28 : M8 2 = M 2 := funext fun j => hx8 2 j (by omega)
  have h48 : M8 214 1 = 4 := (hx8 _ _ (by omega)).trans h4
  have h138 : M8 213 1 = 14 := (hx8 _ _ (by omega)).trans h13
  have hd8 : cs M8 16 = N := hc8.trans hT
  refine gm_sz (gm_p_load (pc := 11) (i := .aload_n 0) (sr := 2) (j := 0) (by decide +kernel) rfl rfl rfl) ?_
  refine gm_sz (gm_p_load (pc := 12) (i := .aload_n 0) (sr := 2) (j := 0) (by decide +kernel) rfl rfl rfl) ?_
  refine gm_sz (fw_gr (pc := 13) (ix := 79) (ci := 0) (j := 12) (r := 213) (by decide +kernel) (e0k hE (k := 1) (c := 0) (by decide +kernel)) (by decide +kernel) (by decide +kernel) (e0r (e0h16 hE) (k := 1) (j := 12) (r := 213) (by decide +kernel))) ?_
  refine gm_sz (gm_p_load (pc := 16) (i := .aload_n 0) (sr := 2) (j := 0) (by decide +kernel) rfl rfl rfl) ?_
  refine gm_sz (fw_gi (pc := 17) (ix := 13) (ci := 0) (j := 1) (x := M 1 1) (by decide +kernel) (e0k hE (k := 1) (c := 0) (by decide +kernel)) (by decide +kernel) (by decide +kernel) ((hx8 _ _ (by omega)).trans rfl)) ?_
  refine gm_c_up (k := 213) (ci := 7) (mj := 72) (ix := 117) (pc := 20) (as := [gm_vi (M 1 1)]) (st := [gm_vr 1]) (d' := d - 1) (bc' := 0) (bs' := 0) (by decide +kernel) (by decide +kernel) (by decide +kernel) (e0k hE (k := 213) (c := 7) (by decide +kernel)).1 (e0k hE (k := 213) (c := 7) (by decide +kernel)).2 (show 1 = gm_na 72 by decide +kernel) (fw_c1 fw_si) (show 2 ≤ gm_ml 72 by decide +kernel) (Nat.le_of_ble_eq_true rfl) (by omega) (Nat.zero_le _) (Nat.zero_le _) ?_
  refine vy_72 (by omega) (e0h16 hE) t8 e28 hF h48 h138 hd8 hG (fun M20 hf20 hc20 hv20 hk20 => ?_) (fun M20 hf20 hc20 hk20 => ?_)
  · show gm_Wp X LX d _ _ 71 23 _ [gm_vi (-1), gm_vr 1] n K _ _ Q
    have t20 : TQ N M20 := ⟨hc20, (cs_same fun x j x1 x2 => (hf20 x j (by intro hm; simp at hm; omega) (by intro hm; simp at hm; omega)).trans (hx8 x j (by omega))).trans hT⟩
    refine gm_sz (fw_pi (pc := 23) (ix := 17) (ci := 0) (j := 2) (M' := gm_uM M20 1 2 (-1)) (by decide +kernel) (e0k hE (k := 1) (c := 0) (by decide +kernel)) (by decide +kernel) (by decide +kernel) (by decide +kernel) rfl) ?_
    refine gm_sz (gm_p_load (pc := 26) (i := .aload_n 0) (sr := 2) (j := 0) (by decide +kernel) rfl rfl rfl) ?_
    refine gm_sz (gm_p_const (pc := 27) (i := .iconst 0) (v := gm_vi 0) (by decide +kernel) (by decide +kernel)) ?_
    refine gm_sz (fw_pi (pc := 28) (ix := 13) (ci := 0) (j := 1) (M' := gm_uM (gm_uM M20 1 2 (-1)) 1 1 0) (by decide +kernel) (e0k hE (k := 1) (c := 0) (by decide +kernel)) (by decide +kernel) (by decide +kernel) (by decide +kernel) rfl) ?_
    refine gm_sz (gm_p_load (pc := 31) (i := .aload_n 0) (sr := 2) (j := 0) (by decide +kernel) rfl rfl rfl) ?_
    refine gm_sz (fw_gi (pc := 32) (ix := 17) (ci := 0) (j := 2) (x := (-1)) (by decide +kernel) (e0k hE (k := 1) (c := 0) (by decide +kernel)) (by decide +kernel) (by decide +kernel) ((uM_ne (by omega)).trans uM_at)) ?_
    refine gm_sz (gm_p_const (pc := 35) (i := .iconst (-1)) (v := gm_vi (-1)) (by decide +kernel) (by decide +kernel)) ?_
    refine fw_ictd (cc := .eq) (pc := 36) (off := 13) (by decide +kernel) (by decide) ⟨by decide, by decide⟩ ⟨by decide, by decide⟩ (by decide) ?_
    refine gm_sz (gm_p_load (pc := 49) (i := .aload_n 0) (sr := 2) (j := 0) (by decide +kernel) rfl rfl rfl) ?_
    refine gm_sz (fw_gr (pc := 50) (ix := 23) (ci := 0) (j := 3) (r := 3) (by decide +kernel) (e0k hE (k := 1) (c := 0) (by decide +kernel)) (by decide +kernel) (by decide +kernel) (e0r (e0h16 hE) (k := 1) (j := 3) (r := 3) (by decide +kernel))) ?_
    refine gm_sz (fw_gi (pc := 53) (ix := 128) (ci := 1) (j := 7) (x := N 7) (by decide +kernel) (e0k hE (k := 3) (c := 1) (by decide +kernel)) (by decide +kernel) (by decide +kernel) ((uM_ne (by omega)).trans ((uM_ne (by omega)).trans (congrFun t20.2 7)))) ?_
    refine gm_sz (gm_p_const (pc := 56) (i := .bipush 12) (v := gm_vi 12) (by decide +kernel) (by decide +kernel)) ?_
    refine fw_ic (cc := .lt) (pc := 58) (off := 13) (by decide +kernel) (by decide) ⟨by omega, by omega⟩ ⟨by decide, by decide⟩ (fun h58 => ?_) (fun h58 => ?_)
    · have h58 : (N 7) < 12 := h58
      refine gm_sz (gm_p_load (pc := 71) (i := .aload_n 0) (sr := 2) (j := 0) (by decide +kernel) rfl rfl rfl) ?_
      refine gm_sz (fw_gr (pc := 72) (ix := 23) (ci := 0) (j := 3) (r := 3) (by decide +kernel) (e0k hE (k := 1) (c := 0) (by decide +kernel)) (by decide +kernel) (by decide +kernel) (e0r (e0h16 hE) (k := 1) (j := 3) (r := 3) (by decide +kernel))) ?_
      refine gm_sz (gm_p_load (pc := 75) (i := .aload_n 0) (sr := 2) (j := 0) (by decide +kernel) rfl rfl rfl) ?_
      refine gm_sz (fw_gr (pc := 76) (ix := 27) (ci := 0) (j := 4) (r := 16) (by decide +kernel) (e0k hE (k := 1) (c := 0) (by decide +kernel)) (by decide +kernel) (by decide +kernel) (e0r (e0h16 hE) (k := 1) (j := 4) (r := 16) (by decide +kernel))) ?_
      refine gm_c_virt (k := 3) (ci := 1) (mj := 57) (ix := 114) (pc := 79) (as := [gm_vr 16]) (st := []) (d' := d - 1) (bc' := 0) (bs' := 0) (by decide +kernel) (by decide +kernel) (by decide +kernel) (by decide +kernel) (e0k hE (k := 3) (c := 1) (by decide +kernel)).1 (e0k hE (k := 3) (c := 1) (by decide +kernel)).2 (by decide) (by decide +kernel) (show 1 = gm_na 57 by decide +kernel) (fw_c1 fw_sr) (show 2 ≤ gm_ml 57 by decide +kernel) (Nat.le_of_ble_eq_true rfl) (by omega) (Nat.zero_le _) (Nat.zero_le _) ?_
      refine st_copy (b := 3) (s := 16) (by omega) (ks_3 (e0h16 hE)) (ks_16 (e0h16 hE)) (by omega) (mx_3 (cst_fr (W := [(1, some 2), (1, some 1)]) t20.1 (fr_p (fr_p fr_0 (Or.inr (by decide))) (Or.inr (by decide))) (by decide +kernel))) (sz_cs (hVG hk20).1 ((cs_el (by omega)).trans ((cs_el (by omega)).trans hv20))) (fun M79 hx79 hy79 hc79 => ?_)
      show gm_Wp X LX d _ _ 71 82 _ [] n K _ _ Q
      have t79 : TQ (v_val (M 2) (M 1 1) N).2.2 M79 := ⟨cst_cpy0 (List.all_eq_true.mp cst_cpf 3 (by decide)) (cst_fr (W := [(1, some 2), (1, some 1)]) t20.1 (fr_p (fr_p fr_0 (Or.inr (by decide))) (Or.inr (by decide))) (by decide +kernel)) ⟨hx79, hy79, hc79⟩, hc79.trans ((cs_el (by omega)).trans ((cs_el (by omega)).trans hv20))⟩
      refine gm_sz (gm_p_load (pc := 82) (i := .aload_n 0) (sr := 2) (j := 0) (by decide +kernel) rfl rfl rfl) ?_
      refine gm_sz (fw_gr (pc := 83) (ix := 23) (ci := 0) (j := 3) (r := 3) (by decide +kernel) (e0k hE (k := 1) (c := 0) (by decide +kernel)) (by decide +kernel) (by decide +kernel) (e0r (e0h3 (e0h16 hE)) (k := 1) (j := 3) (r := 3) (by decide +kernel))) ?_
      refine gm_sz (gm_p_dup (pc := 86) (by decide +kernel) fw_sr) ?_
      refine gm_sz (fw_gi (pc := 87) (ix := 128) (ci := 1) (j := 7) (x := N 7) (by decide +kernel) (e0k hE (k := 3) (c := 1) (by decide +kernel)) (by decide +kernel) (by decide +kernel) ((congrFun t79.2 7).trans v7)) ?_
      refine gm_sz (gm_p_const (pc := 90) (i := .iconst 1) (v := gm_vi 1) (by decide +kernel) (by decide +kernel)) ?_
      refine gm_sz (gm_p_bin (pc := 91) (i := .iadd) (f := fun x y => x + y) (by decide +kernel) rfl) ?_
      refine gm_sz (fw_pi (pc := 92) (ix := 128) (ci := 1) (j := 7) (M' := gm_uM M79 3 7 ((N 7) + 1)) (by decide +kernel) (e0k hE (k := 3) (c := 1) (by decide +kernel)) (by decide +kernel) (by decide +kernel) (by decide +kernel) rfl) ?_
      have g92 : GI (nup (v_val (M 2) (M 1 1) N).2.2 7 (N 7 + 1)) := gi_7 (hVG hk20) ⟨by omega, by omega⟩
      have t92 : TQ (nup (v_val (M 2) (M 1 1) N).2.2 7 (N 7 + 1)) (gm_uM M79 3 7 ((N 7) + 1)) := ⟨(cst_fr (W := [(3, some 7)]) t79.1 (fr_p fr_0 (Or.inr (by decide))) (by decide +kernel)), (cs_f7 (b := 3)).trans (congrArg (fun V9 => nup V9 7 (N 7 + 1)) t79.2)⟩
      refine gm_sz (gm_p_load (pc := 95) (i := .aload_n 0) (sr := 2) (j := 0) (by decide +kernel) rfl rfl rfl) ?_
      refine gm_c_virt (k := 1) (ci := 0) (mj := 61) (ix := 136) (pc := 96) (as := []) (st := []) (d' := d - 1) (bc' := 0) (bs' := 0) (by decide +kernel) (by decide +kernel) (by decide +kernel) (by decide +kernel) (e0k hE (k := 1) (c := 0) (by decide +kernel)).1 (e0k hE (k := 1) (c := 0) (by decide +kernel)).2 (by decide) (by decide +kernel) (show 0 = gm_na 61 by decide +kernel) fw_c0 (show 1 ≤ gm_ml 61 by decide +kernel) (Nat.le_of_ble_eq_true rfl) (by omega) (Nat.zero_le _) (Nat.zero_le _) ?_
      refine fw_c61 (by omega) (e0h3 (e0h16 hE)) t92 g92.1 g92.2.1 (fun M96 hf96 ht96 h6 h42 h15 => ?_)
      show gm_Wp X LX d _ _ 71 99 _ [] n K _ _ Q
      refine gm_sz (gm_p_load (pc := 99) (i := .aload_n 0) (sr := 2) (j := 0) (by decide +kernel) rfl rfl rfl) ?_
      refine gm_sz (fw_gr (pc := 100) (ix := 23) (ci := 0) (j := 3) (r := 3) (by decide +kernel) (e0k hE (k := 1) (c := 0) (by decide +kernel)) (by decide +kernel) (by decide +kernel) (e0r (e0h3 (e0h16 hE)) (k := 1) (j := 3) (r := 3) (by decide +kernel))) ?_
      refine gm_sz (fw_gi (pc := 103) (ix := 128) (ci := 1) (j := 7) (x := (N 7 + 1)) (by decide +kernel) (e0k hE (k := 3) (c := 1) (by decide +kernel)) (by decide +kernel) (by decide +kernel) ((congrFun ht96.2.1 7).trans nup_at)) ?_
      exact gm_r_int (pc := 106) (by decide +kernel) (Or.inl (by decide +kernel)) (hq _ hk20 (by omega) g92 ht96 h6 h42 h15 ((hf96 1 2 (by decide) (by decide)).trans ((uM_ne (by omega)).trans ((hx79 1 2 (by omega)).trans ((uM_ne (by omega)).trans uM_at)))) ((hf96 1 1 (by decide) (by decide)).trans ((uM_ne (by omega)).trans ((hx79 1 1 (by omega)).trans uM_at))) (fun x j hx h1 h2 h3 h4 h5 h7 h8 => ((hf96 x j (by intro hm; simp at hm; omega) (by intro hm; simp at hm; omega)).trans ((uM_ne (by omega)).trans ((hx79 x j (by omega)).trans ((uM_ne (by omega)).trans ((uM_ne (by omega)).trans ((hf20 x j (by intro hm; simp at hm; omega) (by intro hm; simp at hm; omega)).trans (hx8 x j (by omega))))))))))
    · have h58 : ¬ (N 7) < 12 := h58
      exact gm_throw (ik := 131) (is := 133) (ic := 135) (x := 1) (id := 30) (lw := false) (by decide +kernel) (by decide +kernel) (by decide +kernel) (by decide +kernel) (by decide +kernel) (by decide +kernel) (by decide +kernel) (by decide +kernel) (Nat.le_of_ble_eq_true rfl) (by omega) (by omega) (by omega) (q1 _ (fun x j hx h1 h2 => (uM_ne (by omega)).trans ((uM_ne (by omega)).trans ((hf20 x j (by intro hm; simp at hm; omega) (by intro hm; simp at hm; omega)).trans (hx8 x j (by omega))))) (cst_fr (W := [(1, some 2), (1, some 1)]) t20.1 (fr_p (fr_p fr_0 (Or.inr (by decide))) (Or.inr (by decide))) (by decide +kernel)) ((cs_el (by omega)).trans ((cs_el (by omega)).trans t20.2)) hk20 (by omega) ((uM_ne (by omega)).trans uM_at) uM_at)
  · show gm_Wp X LX d _ _ 71 23 _ [gm_vi ((v_val (M 2) (M 1 1) N).2.1), gm_vr 1] n K _ _ Q
    have t20 : TQ N M20 := ⟨hc20, (cs_same fun x j x1 x2 => (hf20 x j (by intro hm; simp at hm; omega) (by intro hm; simp at hm; omega)).trans (hx8 x j (by omega))).trans hT⟩
    refine gm_sz (fw_pi (pc := 23) (ix := 17) (ci := 0) (j := 2) (M' := gm_uM M20 1 2 ((v_val (M 2) (M 1 1) N).2.1)) (by decide +kernel) (e0k hE (k := 1) (c := 0) (by decide +kernel)) (by decide +kernel) (by decide +kernel) (by decide +kernel) rfl) ?_
    refine gm_sz (gm_p_load (pc := 26) (i := .aload_n 0) (sr := 2) (j := 0) (by decide +kernel) rfl rfl rfl) ?_
    refine gm_sz (gm_p_const (pc := 27) (i := .iconst 0) (v := gm_vi 0) (by decide +kernel) (by decide +kernel)) ?_
    refine gm_sz (fw_pi (pc := 28) (ix := 13) (ci := 0) (j := 1) (M' := gm_uM (gm_uM M20 1 2 ((v_val (M 2) (M 1 1) N).2.1)) 1 1 0) (by decide +kernel) (e0k hE (k := 1) (c := 0) (by decide +kernel)) (by decide +kernel) (by decide +kernel) (by decide +kernel) rfl) ?_
    refine gm_sz (gm_p_load (pc := 31) (i := .aload_n 0) (sr := 2) (j := 0) (by decide +kernel) rfl rfl rfl) ?_
    refine gm_sz (fw_gi (pc := 32) (ix := 17) (ci := 0) (j := 2) (x := (v_val (M 2) (M 1 1) N).2.1) (by decide +kernel) (e0k hE (k := 1) (c := 0) (by decide +kernel)) (by decide +kernel) (by decide +kernel) ((uM_ne (by omega)).trans uM_at)) ?_
    refine gm_sz (gm_p_const (pc := 35) (i := .iconst (-1)) (v := gm_vi (-1)) (by decide +kernel) (by decide +kernel)) ?_
    refine fw_ic (cc := .eq) (pc := 36) (off := 13) (by decide +kernel) (by decide) ⟨by omega, by omega⟩ ⟨by decide, by decide⟩ (fun h36 => ?_) (fun h36 => ?_)
    · have h36 : ((v_val (M 2) (M 1 1) N).2.1) = (-1) := h36
      exact absurd h36 (by omega)
    · have h36 : ¬ ((v_val (M 2) (M 1 1) N).2.1) = (-1) := h36
      exact gm_throw (ik := 121) (is := 123) (ic := 125) (x := 0) (id := 29) (lw := false) (by decide +kernel) (by decide +kernel) (by decide +kernel) (by decide +kernel) (by decide +kernel) (by decide +kernel) (by decide +kernel) (by decide +kernel) (Nat.le_of_ble_eq_true rfl) (by omega) (by omega) (by omega) (q0 _ (fun x j hx h1 h2 => (uM_ne (by omega)).trans ((uM_ne (by omega)).trans ((hf20 x j (by intro hm; simp at hm; omega) (by intro hm; simp at hm; omega)).trans (hx8 x j (by omega))))) (cst_fr (W := [(1, some 2), (1, some 1)]) t20.1 (fr_p (fr_p fr_0 (Or.inr (by decide))) (Or.inr (by decide))) (by decide +kernel)) ((cs_el (by omega)).trans ((cs_el (by omega)).trans t20.2)) hk20 ((uM_ne (by omega)).trans uM_at) uM_at)
end V5A
