/-! LOST, OUTS, STREAMS, PERSON: what they answer. -/
section LE54
variable {X : Int → Int} {LX d bc bs n : Nat} {K : gm_K} {R : gm_R} {M : gm_M} {Q : gm_Q} {N h : Int → Int} {sp : Int → Int → Int} {FI : gm_M → Prop} {φ : Int → Int → Int → Int} {o dd : Int → Int} {l lane row year y p w x k c v a b t : Int}
theorem cl_lost (hd : 24 ≤ d) (hbc : 4 ≤ bc) (hbs : 24 ≤ bs) (hE : E0 n K R) (hT : TI N h sp M) (hN : NR N) (hfw : FLW X LX n K R N h sp FI φ) (hI : FI M) (hb15 : gm_ir (M 1 15)) (hk15 : ¬ M 1 15 = 0 → M 1 15 = 1 ∧ ENDS N h φ M) (hoo : ∀ l, 0 ≤ l → l < N 4 → OUTR N h φ l (o l) (dd l)) (kv : ∀ M2, Q (.inl (some (gm_vi (bts (fun l => o l = -1) (N 4).toNat)))) n K R M2) : gm_Wp X LX d bc bs 23 0 (gm_ent 23 [gm_vr 1]) [] n K R M Q := by
  obtain ⟨⟨⟨a0, b0⟩, ⟨a1, b1⟩, ⟨a10, b10⟩, ⟨a11, b11⟩, ⟨a12, b12⟩, a9, b9⟩, ⟨⟨a2, b2⟩, ⟨a5, b5⟩, ⟨a3, b3⟩, ⟨a4, b4⟩, ⟨a6, b6⟩, ⟨a14, b14⟩, ⟨a7, b7⟩, a13, b13⟩, rF, rP, rL⟩ := id hN
  have hob : ∀ l, 0 ≤ l → l < N 4 → -1 ≤ o l ∧ o l ≤ 299 := fun l l0 l1 => OUTR_b (hoo l l0 l1) (rL l l0 l1).2.2.2.1.1
  refine gm_sz (gm_p_load (pc := 0) (i := .aload_n 0) (sr := 2) (j := 0) (by decide +kernel) rfl rfl rfl) ?_
  refine gm_c_virt (k := 1) (ci := 0) (mj := 24) (ix := 254) (pc := 1) (as := []) (st := []) (d' := d - 1) (bc' := 0) (bs' := 0) (by decide +kernel) (by decide +kernel) (by decide +kernel) (by decide +kernel) (e0k hE (k := 1) (c := 0) (by decide +kernel)).1 (e0k hE (k := 1) (c := 0) (by decide +kernel)).2 (by decide) (by decide +kernel) (show 0 = gm_na 24 by decide +kernel) fw_c0 (show 1 ≤ gm_ml 24 by decide +kernel) (Nat.le_of_ble_eq_true rfl) (by omega) (Nat.zero_le _) (Nat.zero_le _) ?_
  refine en_c24 (by omega) hE hT hN hfw hI hb15 hk15 (fun M24 hf24 hI24 h15 hen => ?_)
  show gm_Wp X LX d _ _ 23 4 _ [] n K _ _ Q
  have ho24 : ∀ l, 0 ≤ l → l < N 4 → M24 221 (l * 2 + 0) = o l := fun l l0 l1 => (OUTR_u (hen.2 l l0 l1) (hoo l l0 l1)).1
  refine gm_sz (gm_p_const (pc := 4) (i := .iconst 0) (v := gm_vi 0) (by decide +kernel) (by decide +kernel)) ?_
  refine gm_sz (gm_p_stor (pc := 5) (i := .istore_n 1) (sr := 0) (j := 1) (by decide +kernel) rfl (show 2 ≤ _ from Nat.le_of_ble_eq_true rfl) rfl) ?_
  refine gm_sz (gm_p_const (pc := 6) (i := .iconst 0) (v := gm_vi 0) (by decide +kernel) (by decide +kernel)) ?_
  refine gm_sz (gm_p_stor (pc := 7) (i := .istore_n 2) (sr := 0) (j := 2) (by decide +kernel) rfl (show 3 ≤ _ from Nat.le_of_ble_eq_true rfl) rfl) ?_
  exact lo_c (by omega) hE (ti_fr (W := [(206, some 2), (206, some 3), (206, some 4), (206, some 5), (206, some 6), (206, some 7), (206, some 8), (200, some 6), (204, none), (205, none), (220, some 3), (221, none), (1, some 15)]) hT (fr_t fr_0 hf24 (by decide)) (by decide) (by decide +kernel)) hN hen.1 ho24 hob (kv _) (N 4).toNat 0 (by omega)
theorem re_lost (hd : 24 ≤ d) (hE : E0 n K R) (hT : TR N h M) (hN : NR N) (hfw : FLR X LX n K R N h FI φ) (hI : FI M) (hoo : ∀ l, 0 ≤ l → l < N 4 → OUTR N h φ l (o l) (dd l)) (kv : ∀ M2, M2 226 0 = 0 → Q (.inl (some (gm_vi (bts (fun l => o l = -1) (N 4).toNat)))) n K R M2) : gm_Wp X LX d bc bs 330 0 (gm_ent 330 [gm_vr 226]) [] n K R M Q := by
  obtain ⟨⟨⟨a0, b0⟩, ⟨a1, b1⟩, ⟨a10, b10⟩, ⟨a11, b11⟩, ⟨a12, b12⟩, a9, b9⟩, ⟨⟨a2, b2⟩, ⟨a5, b5⟩, ⟨a3, b3⟩, ⟨a4, b4⟩, ⟨a6, b6⟩, ⟨a14, b14⟩, ⟨a7, b7⟩, a13, b13⟩, rF, rP, rL⟩ := id hN
  have hob : ∀ l, 0 ≤ l → l < N 4 → -1 ≤ o l ∧ o l ≤ 299 := fun l l0 l1 => OUTR_b (hoo l l0 l1) (rL l l0 l1).2.2.2.1.1
  refine gm_sz (gm_p_load (pc := 0) (i := .aload_n 0) (sr := 2) (j := 0) (by decide +kernel) rfl rfl rfl) ?_
  refine gm_sz (gm_p_const (pc := 1) (i := .iconst 0) (v := gm_vi 0) (by decide +kernel) (by decide +kernel)) ?_
  refine gm_sz (fw_pi (pc := 2) (ix := 3) (ci := 11) (j := 0) (M' := gm_uM M 226 0 0) (by decide +kernel) (e0k hE (k := 226) (c := 11) (by decide +kernel)) (by decide +kernel) (by decide +kernel) (by decide +kernel) rfl) ?_
  refine gm_sz (gm_p_const (pc := 5) (i := .iconst 0) (v := gm_vi 0) (by decide +kernel) (by decide +kernel)) ?_
  refine gm_sz (gm_p_stor (pc := 6) (i := .istore_n 1) (sr := 0) (j := 1) (by decide +kernel) rfl (show 2 ≤ _ from Nat.le_of_ble_eq_true rfl) rfl) ?_
  refine gm_sz (gm_p_const (pc := 7) (i := .iconst 0) (v := gm_vi 0) (by decide +kernel) (by decide +kernel)) ?_
  refine gm_sz (gm_p_stor (pc := 8) (i := .istore_n 2) (sr := 0) (j := 2) (by decide +kernel) rfl (show 3 ≤ _ from Nat.le_of_ble_eq_true rfl) rfl) ?_
  exact lo_r (by omega) hE (tr_fr (W := [(226, some 0)]) hT (fr_p fr_0 (Or.inr (by decide))) (by decide)) hN hfw (hfw.2.1 [(226, some 0)] _ _ (by decide) (fr_p fr_0 (Or.inr (by decide))) hI) hoo uM_at kv (N 4).toNat 0 _ (by omega) fr_0 (hfw.2.1 [(226, some 0)] _ _ (by decide) (fr_p fr_0 (Or.inr (by decide))) hI)
theorem oi_47 (hd : 4 ≤ d) (hE : E0 n K R) (hT : TI N h sp M) (hN : NR N) (h3 : M 220 3 = N 4) (ho : ∀ l, 0 ≤ l → l < N 4 → M 221 (l * 2 + 0) = o l) (hob : ∀ l, 0 ≤ l → l < N 4 → -1 ≤ o l ∧ o l ≤ 299) (hi : gm_ir y) (hi2 : gm_ir c) (hq : Q (.inl (some (gm_vi (cnt (fun l => o l = y ∧ (¬ c = 0 ∨ ¬ (N (119 + (l * 7 + 0))) = -1)) (N 4).toNat)))) n K R M) : gm_Wp X LX d bc bs 47 0 (gm_ent 47 [gm_vr 1, gm_vi y, gm_vi c]) [] n K R M Q := by
  obtain ⟨⟨⟨a0, b0⟩, ⟨a1, b1⟩, ⟨a10, b10⟩, ⟨a11, b11⟩, ⟨a12, b12⟩, a9, b9⟩, ⟨⟨a2, b2⟩, ⟨a5, b5⟩, ⟨a3, b3⟩, ⟨a4, b4⟩, ⟨a6, b6⟩, ⟨a14, b14⟩, ⟨a7, b7⟩, a13, b13⟩, rF, rP, rL⟩ := id hN
  refine gm_sz (gm_p_const (pc := 0) (i := .iconst 0) (v := gm_vi 0) (by decide +kernel) (by decide +kernel)) ?_
  refine gm_sz (gm_p_stor (pc := 1) (i := .istore_n 3) (sr := 0) (j := 3) (by decide +kernel) rfl (show 4 ≤ _ from Nat.le_of_ble_eq_true rfl) rfl) ?_
  refine gm_sz (gm_p_const (pc := 2) (i := .iconst 0) (v := gm_vi 0) (by decide +kernel) (by decide +kernel)) ?_
  refine gm_sz (gm_p_stor (pc := 3) (i := .istore 4) (sr := 0) (j := 4) (by decide +kernel) rfl (show 5 ≤ _ from Nat.le_of_ble_eq_true rfl) rfl) ?_
  exact oi_c hd hE hT hN h3 ho hob hi hi2 hq (N 4).toNat 0 (by omega)
theorem cl_outs (hd : 24 ≤ d) (hbc : 4 ≤ bc) (hbs : 24 ≤ bs) (hE : E0 n K R) (hT : TI N h sp M) (hN : NR N) (hfw : FLW X LX n K R N h sp FI φ) (hI : FI M) (hb15 : gm_ir (M 1 15)) (hk15 : ¬ M 1 15 = 0 → M 1 15 = 1 ∧ ENDS N h φ M) (hoo : ∀ l, 0 ≤ l → l < N 4 → OUTR N h φ l (o l) (dd l)) (hi : gm_ir y) (kv : 0 ≤ y ∧ y ≤ 299 → ∀ M2, Q (.inl (some (gm_vi (cnt (fun l => o l = y) (N 4).toNat)))) n K R M2) (k0 : ¬ (0 ≤ y ∧ y ≤ 299) → Q (.inr 0) n K R M) : gm_Wp X LX d bc bs 223 0 (gm_ent 223 [gm_vr 1, gm_vi y]) [] n K R M Q := by
  obtain ⟨⟨⟨a0, b0⟩, ⟨a1, b1⟩, ⟨a10, b10⟩, ⟨a11, b11⟩, ⟨a12, b12⟩, a9, b9⟩, ⟨⟨a2, b2⟩, ⟨a5, b5⟩, ⟨a3, b3⟩, ⟨a4, b4⟩, ⟨a6, b6⟩, ⟨a14, b14⟩, ⟨a7, b7⟩, a13, b13⟩, rF, rP, rL⟩ := id hN
  have hob : ∀ l, 0 ≤ l → l < N 4 → -1 ≤ o l ∧ o l ≤ 299 := fun l l0 l1 => OUTR_b (hoo l l0 l1) (rL l l0 l1).2.2.2.1.1
  refine gm_sz (gm_p_load (pc := 0) (i := .aload_n 0) (sr := 2) (j := 0) (by decide +kernel) rfl rfl rfl) ?_
  refine gm_sz (gm_p_load (pc := 1) (i := .iload_n 1) (sr := 0) (j := 1) (by decide +kernel) rfl rfl rfl) ?_
  refine gm_c_virt (k := 1) (ci := 0) (mj := 129) (ix := 160) (pc := 2) (as := [gm_vi y]) (st := []) (d' := d - 1) (bc' := 1) (bs' := 6) (by decide +kernel) (by decide +kernel) (by decide +kernel) (by decide +kernel) (e0k hE (k := 1) (c := 0) (by decide +kernel)).1 (e0k hE (k := 1) (c := 0) (by decide +kernel)).2 (by decide) (by decide +kernel) (show 1 = gm_na 129 by decide +kernel) (fw_c1 fw_si) (show 2 ≤ gm_ml 129 by decide +kernel) (Nat.le_of_ble_eq_true rfl) (by omega) (by omega) (by omega) ?_
  refine nd_129 (i := y) (by omega) (by omega) (by omega) hi (fun c2 => ?_) (fun c2 => ?_)
  · show gm_Wp X LX d _ _ 223 5 _ [] n K _ _ Q
    have c2 : 0 ≤ y ∧ y ≤ 299 := c2
    refine gm_sz (gm_p_load (pc := 5) (i := .aload_n 0) (sr := 2) (j := 0) (by decide +kernel) rfl rfl rfl) ?_
    refine gm_c_virt (k := 1) (ci := 0) (mj := 24) (ix := 254) (pc := 6) (as := []) (st := []) (d' := d - 1) (bc' := 0) (bs' := 0) (by decide +kernel) (by decide +kernel) (by decide +kernel) (by decide +kernel) (e0k hE (k := 1) (c := 0) (by decide +kernel)).1 (e0k hE (k := 1) (c := 0) (by decide +kernel)).2 (by decide) (by decide +kernel) (show 0 = gm_na 24 by decide +kernel) fw_c0 (show 1 ≤ gm_ml 24 by decide +kernel) (Nat.le_of_ble_eq_true rfl) (by omega) (Nat.zero_le _) (Nat.zero_le _) ?_
    refine en_c24 (by omega) hE hT hN hfw hI hb15 hk15 (fun M24 hf24 hI24 h15 hen => ?_)
    show gm_Wp X LX d _ _ 223 9 _ [] n K _ _ Q
    have ho24 : ∀ l, 0 ≤ l → l < N 4 → M24 221 (l * 2 + 0) = o l := fun l l0 l1 => (OUTR_u (hen.2 l l0 l1) (hoo l l0 l1)).1
    refine gm_sz (gm_p_load (pc := 9) (i := .aload_n 0) (sr := 2) (j := 0) (by decide +kernel) rfl rfl rfl) ?_
    refine gm_sz (gm_p_load (pc := 10) (i := .iload_n 1) (sr := 0) (j := 1) (by decide +kernel) rfl rfl rfl) ?_
    refine gm_sz (gm_p_const (pc := 11) (i := .iconst 1) (v := gm_vi 1) (by decide +kernel) (by decide +kernel)) ?_
    refine gm_c_virt (k := 1) (ci := 0) (mj := 47) (ix := 315) (pc := 12) (as := [gm_vi y, gm_vi 1]) (st := []) (d' := d - 1) (bc' := 0) (bs' := 0) (by decide +kernel) (by decide +kernel) (by decide +kernel) (by decide +kernel) (e0k hE (k := 1) (c := 0) (by decide +kernel)).1 (e0k hE (k := 1) (c := 0) (by decide +kernel)).2 (by decide) (by decide +kernel) (show 2 = gm_na 47 by decide +kernel) (fw_c2 fw_si fw_si) (show 3 ≤ gm_ml 47 by decide +kernel) (Nat.le_of_ble_eq_true rfl) (by omega) (Nat.zero_le _) (Nat.zero_le _) ?_
    refine oi_47 (o := o) (by omega) hE (ti_fr (W := [(206, some 2), (206, some 3), (206, some 4), (206, some 5), (206, some 6), (206, some 7), (206, some 8), (200, some 6), (204, none), (205, none), (220, some 3), (221, none), (1, some 15)]) hT (fr_t fr_0 hf24 (by decide)) (by decide) (by decide +kernel)) hN hen.1 ho24 hob hi ⟨by decide, by decide⟩ ?_
    show gm_Wp X LX d _ _ 223 15 _ [gm_vi (cnt (fun l => o l = y ∧ (¬ (1 : Int) = 0 ∨ ¬ (N (119 + (l * 7 + 0))) = -1)) (N 4).toNat)] n K _ _ Q
    rw [cnt_cg (p := (fun l => o l = y ∧ (¬ (1 : Int) = 0 ∨ ¬ (N (119 + (l * 7 + 0))) = -1))) (q := (fun l => o l = y)) (N 4).toNat (fun i _ => ⟨fun hh => hh.1, fun hh => ⟨hh, Or.inl (by decide)⟩⟩)]
    exact gm_r_int (pc := 15) (by decide +kernel) (Or.inl (by decide +kernel)) (kv (by omega) _)
  · show Q (.inr 0) n K _ _
    have c2 : ¬ (0 ≤ y ∧ y ≤ 299) := c2
    exact (k0 (by omega))
theorem on_333 (hd : 4 ≤ d) (hE : E0 n K R) (hT : TR N h M) (hN : NR N) (ho : ∀ l, 0 ≤ l → l < N 4 → M 238 l = o l) (hob : ∀ l, 0 ≤ l → l < N 4 → -1 ≤ o l ∧ o l ≤ 299) (hi : gm_ir y) (hi2 : gm_ir x) (hi3 : gm_ir c) (hq : Q (.inl (some (gm_vi (cnt (fun l => o l = y ∧ (x < 0 ∨ (N (119 + (l * 7 + 2))) = x) ∧ (¬ c = 0 ∨ ¬ (N (119 + (l * 7 + 0))) = -1)) (N 4).toNat)))) n K R M) : gm_Wp X LX d bc bs 333 0 (gm_ent 333 [gm_vr 226, gm_vi y, gm_vi x, gm_vi c]) [] n K R M Q := by
  obtain ⟨⟨⟨a0, b0⟩, ⟨a1, b1⟩, ⟨a10, b10⟩, ⟨a11, b11⟩, ⟨a12, b12⟩, a9, b9⟩, ⟨⟨a2, b2⟩, ⟨a5, b5⟩, ⟨a3, b3⟩, ⟨a4, b4⟩, ⟨a6, b6⟩, ⟨a14, b14⟩, ⟨a7, b7⟩, a13, b13⟩, rF, rP, rL⟩ := id hN
  refine gm_sz (gm_p_const (pc := 0) (i := .iconst 0) (v := gm_vi 0) (by decide +kernel) (by decide +kernel)) ?_
  refine gm_sz (gm_p_stor (pc := 1) (i := .istore 4) (sr := 0) (j := 4) (by decide +kernel) rfl (show 5 ≤ _ from Nat.le_of_ble_eq_true rfl) rfl) ?_
  refine gm_sz (gm_p_const (pc := 3) (i := .iconst 0) (v := gm_vi 0) (by decide +kernel) (by decide +kernel)) ?_
  refine gm_sz (gm_p_stor (pc := 4) (i := .istore 5) (sr := 0) (j := 5) (by decide +kernel) rfl (show 6 ≤ _ from Nat.le_of_ble_eq_true rfl) rfl) ?_
  exact on_r hd hE hT hN ho hob hi hi2 hi3 hq (N 4).toNat 0 (by omega)
theorem re_outs (hd : 24 ≤ d) (hE : E0 n K R) (hT : TR N h M) (hN : NR N) (hfw : FLR X LX n K R N h FI φ) (hI : FI M) (hoo : ∀ l, 0 ≤ l → l < N 4 → OUTR N h φ l (o l) (dd l)) (hi : gm_ir y) (kv : 0 ≤ y ∧ y ≤ 299 → ∀ M2, M2 226 0 = 0 → Q (.inl (some (gm_vi (cnt (fun l => o l = y) (N 4).toNat)))) n K R M2) (k1 : ¬ (0 ≤ y ∧ y ≤ 299) → ∀ M2, M2 226 0 = 1 → Q (.inl (some (gm_vi 0))) n K R M2) : gm_Wp X LX d bc bs 361 0 (gm_ent 361 [gm_vr 226, gm_vi y]) [] n K R M Q := by
  obtain ⟨⟨⟨a0, b0⟩, ⟨a1, b1⟩, ⟨a10, b10⟩, ⟨a11, b11⟩, ⟨a12, b12⟩, a9, b9⟩, ⟨⟨a2, b2⟩, ⟨a5, b5⟩, ⟨a3, b3⟩, ⟨a4, b4⟩, ⟨a6, b6⟩, ⟨a14, b14⟩, ⟨a7, b7⟩, a13, b13⟩, rF, rP, rL⟩ := id hN
  have hob : ∀ l, 0 ≤ l → l < N 4 → -1 ≤ o l ∧ o l ≤ 299 := fun l l0 l1 => OUTR_b (hoo l l0 l1) (rL l l0 l1).2.2.2.1.1
  refine gm_sz (gm_p_load (pc := 0) (i := .aload_n 0) (sr := 2) (j := 0) (by decide +kernel) rfl rfl rfl) ?_
  refine gm_sz (gm_p_const (pc := 1) (i := .iconst 0) (v := gm_vi 0) (by decide +kernel) (by decide +kernel)) ?_
  refine gm_sz (fw_pi (pc := 2) (ix := 3) (ci := 11) (j := 0) (M' := gm_uM M 226 0 0) (by decide +kernel) (e0k hE (k := 226) (c := 11) (by decide +kernel)) (by decide +kernel) (by decide +kernel) (by decide +kernel) rfl) ?_
  refine gm_sz (gm_p_load (pc := 5) (i := .aload_n 0) (sr := 2) (j := 0) (by decide +kernel) rfl rfl rfl) ?_
  refine gm_sz (gm_p_load (pc := 6) (i := .iload_n 1) (sr := 0) (j := 1) (by decide +kernel) rfl rfl rfl) ?_
  refine gm_c_stat (mj := 285) (ix := 353) (pc := 7) (as := [gm_vi y]) (st := [gm_vr 226]) (d' := d - 1) (bc' := 0) (bs' := 0) (by decide +kernel) (by decide +kernel) (by decide +kernel) (by decide +kernel) (show 1 = gm_na 285 by decide +kernel) (fw_c1 fw_si) (show 1 ≤ gm_ml 285 by decide +kernel) (Nat.le_of_ble_eq_true rfl) (by omega) (Nat.zero_le _) (Nat.zero_le _) ?_
  refine no_285 (i := y) (by omega) hi (fun n7 => ?_) (fun n7 => ?_)
  · show gm_Wp X LX d _ _ 361 10 _ [gm_vi 1, gm_vr 226] n K _ _ Q
    have n7 : ¬ (0 ≤ y ∧ y ≤ 299) := n7
    refine gm_sz (gm_p_const (pc := 10) (i := .iconst 1) (v := gm_vi 1) (by decide +kernel) (by decide +kernel)) ?_
    refine gm_c_virt (k := 226) (ci := 11) (mj := 282) (ix := 300) (pc := 11) (as := [gm_vi 1, gm_vi 1]) (st := []) (d' := d - 1) (bc' := 0) (bs' := 0) (by decide +kernel) (by decide +kernel) (by decide +kernel) (by decide +kernel) (e0k hE (k := 226) (c := 11) (by decide +kernel)).1 (e0k hE (k := 226) (c := 11) (by decide +kernel)).2 (by decide) (by decide +kernel) (show 2 = gm_na 282 by decide +kernel) (fw_c2 fw_si fw_si) (show 3 ≤ gm_ml 282 by decide +kernel) (Nat.le_of_ble_eq_true rfl) (by omega) (Nat.zero_le _) (Nat.zero_le _) ?_
    refine tf_1 hE ?_
    show gm_Wp X LX d _ _ 361 14 _ [gm_vi 1] n K _ _ Q
    refine fw_iffd (cc := .eq) (pc := 14) (off := 5) (by decide +kernel) (by decide) ⟨by decide, by decide⟩ (by decide) ?_
    refine gm_sz (gm_p_const (pc := 17) (i := .iconst 0) (v := gm_vi 0) (by decide +kernel) (by decide +kernel)) ?_
    exact gm_r_int (pc := 18) (by decide +kernel) (Or.inl (by decide +kernel)) (k1 (by omega) _ uM_at)
  · show gm_Wp X LX d _ _ 361 10 _ [gm_vi 0, gm_vr 226] n K _ _ Q
    have n7 : 0 ≤ y ∧ y ≤ 299 := n7
    refine gm_sz (gm_p_const (pc := 10) (i := .iconst 1) (v := gm_vi 1) (by decide +kernel) (by decide +kernel)) ?_
    refine gm_c_virt (k := 226) (ci := 11) (mj := 282) (ix := 300) (pc := 11) (as := [gm_vi 0, gm_vi 1]) (st := []) (d' := d - 1) (bc' := 0) (bs' := 0) (by decide +kernel) (by decide +kernel) (by decide +kernel) (by decide +kernel) (e0k hE (k := 226) (c := 11) (by decide +kernel)).1 (e0k hE (k := 226) (c := 11) (by decide +kernel)).2 (by decide) (by decide +kernel) (show 2 = gm_na 282 by decide +kernel) (fw_c2 fw_si fw_si) (show 3 ≤ gm_ml 282 by decide +kernel) (Nat.le_of_ble_eq_true rfl) (by omega) (Nat.zero_le _) (Nat.zero_le _) ?_
    refine tf_0 hE ?_
    show gm_Wp X LX d _ _ 361 14 _ [gm_vi 0] n K _ _ Q
    refine fw_iftd (cc := .eq) (pc := 14) (off := 5) (by decide +kernel) (by decide) ⟨by decide, by decide⟩ (by decide) ?_
    refine gm_sz (gm_p_load (pc := 19) (i := .aload_n 0) (sr := 2) (j := 0) (by decide +kernel) rfl rfl rfl) ?_
    refine gm_c_virt (k := 226) (ci := 11) (mj := 332) (ix := 428) (pc := 20) (as := []) (st := []) (d' := d - 1) (bc' := 0) (bs' := 0) (by decide +kernel) (by decide +kernel) (by decide +kernel) (by decide +kernel) (e0k hE (k := 226) (c := 11) (by decide +kernel)).1 (e0k hE (k := 226) (c := 11) (by decide +kernel)).2 (by decide) (by decide +kernel) (show 0 = gm_na 332 by decide +kernel) fw_c0 (show 1 ≤ gm_ml 332 by decide +kernel) (Nat.le_of_ble_eq_true rfl) (by omega) (Nat.zero_le _) (Nat.zero_le _) ?_
    refine oa_332 (by omega) hE (tr_fr (W := [(226, some 0)]) hT (fr_p fr_0 (Or.inr (by decide))) (by decide)) hN hfw (hfw.2.1 [(226, some 0)] _ _ (by decide) (fr_p fr_0 (Or.inr (by decide))) hI) hoo uM_at (fun M32 hf32 hI32 h032 ho32 => ?_)
    show gm_Wp X LX d _ _ 361 23 _ [] n K _ _ Q
    refine gm_sz (gm_p_load (pc := 23) (i := .aload_n 0) (sr := 2) (j := 0) (by decide +kernel) rfl rfl rfl) ?_
    refine gm_sz (gm_p_load (pc := 24) (i := .iload_n 1) (sr := 0) (j := 1) (by decide +kernel) rfl rfl rfl) ?_
    refine gm_sz (gm_p_const (pc := 25) (i := .iconst (-1)) (v := gm_vi (-1)) (by decide +kernel) (by decide +kernel)) ?_
    refine gm_sz (gm_p_const (pc := 26) (i := .iconst 1) (v := gm_vi 1) (by decide +kernel) (by decide +kernel)) ?_
    refine gm_c_virt (k := 226) (ci := 11) (mj := 333) (ix := 431) (pc := 27) (as := [gm_vi y, gm_vi (-1), gm_vi 1]) (st := []) (d' := d - 1) (bc' := 0) (bs' := 0) (by decide +kernel) (by decide +kernel) (by decide +kernel) (by decide +kernel) (e0k hE (k := 226) (c := 11) (by decide +kernel)).1 (e0k hE (k := 226) (c := 11) (by decide +kernel)).2 (by decide) (by decide +kernel) (show 3 = gm_na 333 by decide +kernel) (fw_c3 fw_si fw_si fw_si) (show 4 ≤ gm_ml 333 by decide +kernel) (Nat.le_of_ble_eq_true rfl) (by omega) (Nat.zero_le _) (Nat.zero_le _) ?_
    refine on_333 (o := o) (by omega) hE (tr_fr (W := [(226, some 0), (226, some 29), (226, some 30), (226, some 26), (226, some 17), (226, some 18), (226, some 19), (226, some 20), (226, some 21), (226, some 22), (226, some 23), (235, none), (233, none), (236, none), (237, none), (238, none)]) hT (fr_t (fr_p fr_0 (Or.inr (by decide))) hf32 (by decide)) (by decide)) hN ho32 hob hi ⟨by decide, by decide⟩ ⟨by decide, by decide⟩ ?_
    show gm_Wp X LX d _ _ 361 30 _ [gm_vi (cnt (fun l => o l = y ∧ ((-1 : Int) < 0 ∨ (N (119 + (l * 7 + 2))) = (-1 : Int)) ∧ (¬ (1 : Int) = 0 ∨ ¬ (N (119 + (l * 7 + 0))) = -1)) (N 4).toNat)] n K _ _ Q
    rw [cnt_cg (p := (fun l => o l = y ∧ ((-1 : Int) < 0 ∨ (N (119 + (l * 7 + 2))) = (-1 : Int)) ∧ (¬ (1 : Int) = 0 ∨ ¬ (N (119 + (l * 7 + 0))) = -1))) (q := (fun l => o l = y)) (N 4).toNat (fun i _ => ⟨fun hh => hh.1, fun hh => ⟨hh, Or.inl (by decide), Or.inl (by decide)⟩⟩)]
    exact gm_r_int (pc := 30) (by decide +kernel) (Or.inl (by decide +kernel)) (kv (by omega) _ h032)
theorem cl_streams (hd : 24 ≤ d) (hbc : 4 ≤ bc) (hbs : 24 ≤ bs) (hE : E0 n K R) (hT : TI N h sp M) (hN : NR N) (hfw : FLW X LX n K R N h sp FI φ) (hI : FI M) (hb15 : gm_ir (M 1 15)) (hk15 : ¬ M 1 15 = 0 → M 1 15 = 1 ∧ ENDS N h φ M) (hoo : ∀ l, 0 ≤ l → l < N 4 → OUTR N h φ l (o l) (dd l)) (hi : gm_ir y) (hi2 : 0 ≤ c ∧ c ≤ 1) (kv : 0 ≤ y ∧ y ≤ 299 → ∀ M2, Q (.inl (some (gm_vi (cnt (fun l => ((c = 1 ∧ N 12 ≤ (N (119 + (l * 7 + 2)))) ∨ (c = 0 ∧ (N (119 + (l * 7 + 2))) < N 12)) ∧ (¬ o l = -1 ∧ o l ≤ y)) (N 4).toNat)))) n K R M2) (k0 : ¬ (0 ≤ y ∧ y ≤ 299) → Q (.inr 0) n K R M) : gm_Wp X LX d bc bs 225 0 (gm_ent 225 [gm_vr 1, gm_vi y, gm_vi c]) [] n K R M Q := by
  obtain ⟨⟨⟨a0, b0⟩, ⟨a1, b1⟩, ⟨a10, b10⟩, ⟨a11, b11⟩, ⟨a12, b12⟩, a9, b9⟩, ⟨⟨a2, b2⟩, ⟨a5, b5⟩, ⟨a3, b3⟩, ⟨a4, b4⟩, ⟨a6, b6⟩, ⟨a14, b14⟩, ⟨a7, b7⟩, a13, b13⟩, rF, rP, rL⟩ := id hN
  have hob : ∀ l, 0 ≤ l → l < N 4 → -1 ≤ o l ∧ o l ≤ 299 := fun l l0 l1 => OUTR_b (hoo l l0 l1) (rL l l0 l1).2.2.2.1.1
  refine gm_sz (gm_p_load (pc := 0) (i := .aload_n 0) (sr := 2) (j := 0) (by decide +kernel) rfl rfl rfl) ?_
  refine gm_sz (gm_p_load (pc := 1) (i := .iload_n 1) (sr := 0) (j := 1) (by decide +kernel) rfl rfl rfl) ?_
  refine gm_c_virt (k := 1) (ci := 0) (mj := 129) (ix := 160) (pc := 2) (as := [gm_vi y]) (st := []) (d' := d - 1) (bc' := 1) (bs' := 6) (by decide +kernel) (by decide +kernel) (by decide +kernel) (by decide +kernel) (e0k hE (k := 1) (c := 0) (by decide +kernel)).1 (e0k hE (k := 1) (c := 0) (by decide +kernel)).2 (by decide) (by decide +kernel) (show 1 = gm_na 129 by decide +kernel) (fw_c1 fw_si) (show 2 ≤ gm_ml 129 by decide +kernel) (Nat.le_of_ble_eq_true rfl) (by omega) (by omega) (by omega) ?_
  refine nd_129 (i := y) (by omega) (by omega) (by omega) hi (fun c2 => ?_) (fun c2 => ?_)
  · show gm_Wp X LX d _ _ 225 5 _ [] n K _ _ Q
    have c2 : 0 ≤ y ∧ y ≤ 299 := c2
    refine gm_sz (gm_p_load (pc := 5) (i := .aload_n 0) (sr := 2) (j := 0) (by decide +kernel) rfl rfl rfl) ?_
    refine gm_c_virt (k := 1) (ci := 0) (mj := 24) (ix := 254) (pc := 6) (as := []) (st := []) (d' := d - 1) (bc' := 0) (bs' := 0) (by decide +kernel) (by decide +kernel) (by decide +kernel) (by decide +kernel) (e0k hE (k := 1) (c := 0) (by decide +kernel)).1 (e0k hE (k := 1) (c := 0) (by decide +kernel)).2 (by decide) (by decide +kernel) (show 0 = gm_na 24 by decide +kernel) fw_c0 (show 1 ≤ gm_ml 24 by decide +kernel) (Nat.le_of_ble_eq_true rfl) (by omega) (Nat.zero_le _) (Nat.zero_le _) ?_
    refine en_c24 (by omega) hE hT hN hfw hI hb15 hk15 (fun M24 hf24 hI24 h15 hen => ?_)
    show gm_Wp X LX d _ _ 225 9 _ [] n K _ _ Q
    have ho24 : ∀ l, 0 ≤ l → l < N 4 → M24 221 (l * 2 + 0) = o l := fun l l0 l1 => (OUTR_u (hen.2 l l0 l1) (hoo l l0 l1)).1
    refine gm_sz (gm_p_const (pc := 9) (i := .iconst 0) (v := gm_vi 0) (by decide +kernel) (by decide +kernel)) ?_
    refine gm_sz (gm_p_stor (pc := 10) (i := .istore_n 3) (sr := 0) (j := 3) (by decide +kernel) rfl (show 4 ≤ _ from Nat.le_of_ble_eq_true rfl) rfl) ?_
    refine gm_sz (gm_p_const (pc := 11) (i := .iconst 0) (v := gm_vi 0) (by decide +kernel) (by decide +kernel)) ?_
    refine gm_sz (gm_p_stor (pc := 12) (i := .istore 4) (sr := 0) (j := 4) (by decide +kernel) rfl (show 5 ≤ _ from Nat.le_of_ble_eq_true rfl) rfl) ?_
    exact st_c (by omega) hE (ti_fr (W := [(206, some 2), (206, some 3), (206, some 4), (206, some 5), (206, some 6), (206, some 7), (206, some 8), (200, some 6), (204, none), (205, none), (220, some 3), (221, none), (1, some 15)]) hT (fr_t fr_0 hf24 (by decide)) (by decide) (by decide +kernel)) hN hen.1 ho24 hob hi hi2 (kv (by omega) _) (N 4).toNat 0 _ (by omega)
  · show Q (.inr 0) n K _ _
    have c2 : ¬ (0 ≤ y ∧ y ≤ 299) := c2
    exact (k0 (by omega))
theorem re_streams (hd : 24 ≤ d) (hE : E0 n K R) (hT : TR N h M) (hN : NR N) (hfw : FLR X LX n K R N h FI φ) (hI : FI M) (hoo : ∀ l, 0 ≤ l → l < N 4 → OUTR N h φ l (o l) (dd l)) (hi : gm_ir y) (hi2 : 0 ≤ c ∧ c ≤ 1) (kv : 0 ≤ y ∧ y ≤ 299 → ∀ M2, M2 226 0 = 0 → Q (.inl (some (gm_vi (cnt (fun l => ((c = 1 ∧ N 12 ≤ (N (119 + (l * 7 + 2)))) ∨ (c = 0 ∧ (N (119 + (l * 7 + 2))) < N 12)) ∧ (¬ o l = -1 ∧ o l ≤ y)) (N 4).toNat)))) n K R M2) (k1 : ¬ (0 ≤ y ∧ y ≤ 299) → ∀ M2, M2 226 0 = 1 → Q (.inl (some (gm_vi 0))) n K R M2) : gm_Wp X LX d bc bs 363 0 (gm_ent 363 [gm_vr 226, gm_vi y, gm_vi c]) [] n K R M Q := by
  obtain ⟨⟨⟨a0, b0⟩, ⟨a1, b1⟩, ⟨a10, b10⟩, ⟨a11, b11⟩, ⟨a12, b12⟩, a9, b9⟩, ⟨⟨a2, b2⟩, ⟨a5, b5⟩, ⟨a3, b3⟩, ⟨a4, b4⟩, ⟨a6, b6⟩, ⟨a14, b14⟩, ⟨a7, b7⟩, a13, b13⟩, rF, rP, rL⟩ := id hN
  have hob : ∀ l, 0 ≤ l → l < N 4 → -1 ≤ o l ∧ o l ≤ 299 := fun l l0 l1 => OUTR_b (hoo l l0 l1) (rL l l0 l1).2.2.2.1.1
  refine gm_sz (gm_p_load (pc := 0) (i := .aload_n 0) (sr := 2) (j := 0) (by decide +kernel) rfl rfl rfl) ?_
  refine gm_sz (gm_p_const (pc := 1) (i := .iconst 0) (v := gm_vi 0) (by decide +kernel) (by decide +kernel)) ?_
  refine gm_sz (fw_pi (pc := 2) (ix := 3) (ci := 11) (j := 0) (M' := gm_uM M 226 0 0) (by decide +kernel) (e0k hE (k := 226) (c := 11) (by decide +kernel)) (by decide +kernel) (by decide +kernel) (by decide +kernel) rfl) ?_
  refine gm_sz (gm_p_load (pc := 5) (i := .aload_n 0) (sr := 2) (j := 0) (by decide +kernel) rfl rfl rfl) ?_
  refine gm_sz (gm_p_load (pc := 6) (i := .iload_n 1) (sr := 0) (j := 1) (by decide +kernel) rfl rfl rfl) ?_
  refine gm_c_stat (mj := 285) (ix := 353) (pc := 7) (as := [gm_vi y]) (st := [gm_vr 226]) (d' := d - 1) (bc' := 0) (bs' := 0) (by decide +kernel) (by decide +kernel) (by decide +kernel) (by decide +kernel) (show 1 = gm_na 285 by decide +kernel) (fw_c1 fw_si) (show 1 ≤ gm_ml 285 by decide +kernel) (Nat.le_of_ble_eq_true rfl) (by omega) (Nat.zero_le _) (Nat.zero_le _) ?_
  refine no_285 (i := y) (by omega) hi (fun n7 => ?_) (fun n7 => ?_)
  · show gm_Wp X LX d _ _ 363 10 _ [gm_vi 1, gm_vr 226] n K _ _ Q
    have n7 : ¬ (0 ≤ y ∧ y ≤ 299) := n7
    refine gm_sz (gm_p_const (pc := 10) (i := .iconst 1) (v := gm_vi 1) (by decide +kernel) (by decide +kernel)) ?_
    refine gm_c_virt (k := 226) (ci := 11) (mj := 282) (ix := 300) (pc := 11) (as := [gm_vi 1, gm_vi 1]) (st := []) (d' := d - 1) (bc' := 0) (bs' := 0) (by decide +kernel) (by decide +kernel) (by decide +kernel) (by decide +kernel) (e0k hE (k := 226) (c := 11) (by decide +kernel)).1 (e0k hE (k := 226) (c := 11) (by decide +kernel)).2 (by decide) (by decide +kernel) (show 2 = gm_na 282 by decide +kernel) (fw_c2 fw_si fw_si) (show 3 ≤ gm_ml 282 by decide +kernel) (Nat.le_of_ble_eq_true rfl) (by omega) (Nat.zero_le _) (Nat.zero_le _) ?_
    refine tf_1 hE ?_
    show gm_Wp X LX d _ _ 363 14 _ [gm_vi 1] n K _ _ Q
    refine fw_iffd (cc := .eq) (pc := 14) (off := 5) (by decide +kernel) (by decide) ⟨by decide, by decide⟩ (by decide) ?_
    refine gm_sz (gm_p_const (pc := 17) (i := .iconst 0) (v := gm_vi 0) (by decide +kernel) (by decide +kernel)) ?_
    exact gm_r_int (pc := 18) (by decide +kernel) (Or.inl (by decide +kernel)) (k1 (by omega) _ uM_at)
  · show gm_Wp X LX d _ _ 363 10 _ [gm_vi 0, gm_vr 226] n K _ _ Q
    have n7 : 0 ≤ y ∧ y ≤ 299 := n7
    refine gm_sz (gm_p_const (pc := 10) (i := .iconst 1) (v := gm_vi 1) (by decide +kernel) (by decide +kernel)) ?_
    refine gm_c_virt (k := 226) (ci := 11) (mj := 282) (ix := 300) (pc := 11) (as := [gm_vi 0, gm_vi 1]) (st := []) (d' := d - 1) (bc' := 0) (bs' := 0) (by decide +kernel) (by decide +kernel) (by decide +kernel) (by decide +kernel) (e0k hE (k := 226) (c := 11) (by decide +kernel)).1 (e0k hE (k := 226) (c := 11) (by decide +kernel)).2 (by decide) (by decide +kernel) (show 2 = gm_na 282 by decide +kernel) (fw_c2 fw_si fw_si) (show 3 ≤ gm_ml 282 by decide +kernel) (Nat.le_of_ble_eq_true rfl) (by omega) (Nat.zero_le _) (Nat.zero_le _) ?_
    refine tf_0 hE ?_
    show gm_Wp X LX d _ _ 363 14 _ [gm_vi 0] n K _ _ Q
    refine fw_iftd (cc := .eq) (pc := 14) (off := 5) (by decide +kernel) (by decide) ⟨by decide, by decide⟩ (by decide) ?_
    refine gm_sz (gm_p_load (pc := 19) (i := .aload_n 0) (sr := 2) (j := 0) (by decide +kernel) rfl rfl rfl) ?_
    refine gm_c_virt (k := 226) (ci := 11) (mj := 332) (ix := 428) (pc := 20) (as := []) (st := []) (d' := d - 1) (bc' := 0) (bs' := 0) (by decide +kernel) (by decide +kernel) (by decide +kernel) (by decide +kernel) (e0k hE (k := 226) (c := 11) (by decide +kernel)).1 (e0k hE (k := 226) (c := 11) (by decide +kernel)).2 (by decide) (by decide +kernel) (show 0 = gm_na 332 by decide +kernel) fw_c0 (show 1 ≤ gm_ml 332 by decide +kernel) (Nat.le_of_ble_eq_true rfl) (by omega) (Nat.zero_le _) (Nat.zero_le _) ?_
    refine oa_332 (by omega) hE (tr_fr (W := [(226, some 0)]) hT (fr_p fr_0 (Or.inr (by decide))) (by decide)) hN hfw (hfw.2.1 [(226, some 0)] _ _ (by decide) (fr_p fr_0 (Or.inr (by decide))) hI) hoo uM_at (fun M32 hf32 hI32 h032 ho32 => ?_)
    show gm_Wp X LX d _ _ 363 23 _ [] n K _ _ Q
    refine gm_sz (gm_p_const (pc := 23) (i := .iconst 0) (v := gm_vi 0) (by decide +kernel) (by decide +kernel)) ?_
    refine gm_sz (gm_p_stor (pc := 24) (i := .istore_n 3) (sr := 0) (j := 3) (by decide +kernel) rfl (show 4 ≤ _ from Nat.le_of_ble_eq_true rfl) rfl) ?_
    refine gm_sz (gm_p_const (pc := 25) (i := .iconst 0) (v := gm_vi 0) (by decide +kernel) (by decide +kernel)) ?_
    refine gm_sz (gm_p_stor (pc := 26) (i := .istore 4) (sr := 0) (j := 4) (by decide +kernel) rfl (show 5 ≤ _ from Nat.le_of_ble_eq_true rfl) rfl) ?_
    exact st_r (by omega) hE (tr_fr (W := [(226, some 0), (226, some 29), (226, some 30), (226, some 26), (226, some 17), (226, some 18), (226, some 19), (226, some 20), (226, some 21), (226, some 22), (226, some 23), (235, none), (233, none), (236, none), (237, none), (238, none)]) hT (fr_t (fr_p fr_0 (Or.inr (by decide))) hf32 (by decide)) (by decide)) hN ho32 hob hi hi2 (kv (by omega) _ h032) (N 4).toNat 0 (by omega)
theorem lw_140 (hd : 4 ≤ d) (hE : E0 n K R) (hT : TI N h sp M) (hN : NR N) (h7 : 0 ≤ c ∧ c < 7) (hl9 : ∀ l, 0 ≤ l → l < N 4 → gm_ir ((N (119 + (l * 7 + c))))) (hi : gm_ir y) (hq : Q (.inl (some (gm_vi (cnt (fun l => (N (119 + (l * 7 + c))) = y) (N 4).toNat)))) n K R M) : gm_Wp X LX d bc bs 140 0 (gm_ent 140 [gm_vr 1, gm_vi c, gm_vi y]) [] n K R M Q := by
  obtain ⟨⟨⟨a0, b0⟩, ⟨a1, b1⟩, ⟨a10, b10⟩, ⟨a11, b11⟩, ⟨a12, b12⟩, a9, b9⟩, ⟨⟨a2, b2⟩, ⟨a5, b5⟩, ⟨a3, b3⟩, ⟨a4, b4⟩, ⟨a6, b6⟩, ⟨a14, b14⟩, ⟨a7, b7⟩, a13, b13⟩, rF, rP, rL⟩ := id hN
  refine gm_sz (gm_p_const (pc := 0) (i := .iconst 0) (v := gm_vi 0) (by decide +kernel) (by decide +kernel)) ?_
  refine gm_sz (gm_p_stor (pc := 1) (i := .istore_n 3) (sr := 0) (j := 3) (by decide +kernel) rfl (show 4 ≤ _ from Nat.le_of_ble_eq_true rfl) rfl) ?_
  refine gm_sz (gm_p_const (pc := 2) (i := .iconst 0) (v := gm_vi 0) (by decide +kernel) (by decide +kernel)) ?_
  refine gm_sz (gm_p_stor (pc := 3) (i := .istore 4) (sr := 0) (j := 4) (by decide +kernel) rfl (show 5 ≤ _ from Nat.le_of_ble_eq_true rfl) rfl) ?_
  exact lw_c hd hE hT hN h7 hl9 hi hq (N 4).toNat 0 (by omega)
theorem wa_65 (hd : 22 ≤ d) (hE : E0 n K R) (hT : TI N h sp M) (hN : NR N) (hfw : FLW X LX n K R N h sp FI φ) (hI : FI M) (hb15 : gm_ir (M 1 15)) (hk15 : ¬ M 1 15 = 0 → M 1 15 = 1 ∧ ENDS N h φ M) (hoo : ∀ l, 0 ≤ l → l < N 4 → OUTR N h φ l (o l) (dd l)) (hi : gm_ir c) (kv : ∀ M2, Q (.inl (some (gm_vi (cnt (fun l => (c = -1 ∨ (N (119 + (l * 7 + 1))) = c) ∧ (¬ (N (119 + (l * 7 + 0))) = -1 ∧ (N (119 + (l * 7 + 5))) = -1 ∧ ¬ o l = -1 ∧ o l ≤ N 9)) (N 4).toNat)))) n K R M2) : gm_Wp X LX d bc bs 65 0 (gm_ent 65 [gm_vr 1, gm_vi c]) [] n K R M Q := by
  obtain ⟨⟨⟨a0, b0⟩, ⟨a1, b1⟩, ⟨a10, b10⟩, ⟨a11, b11⟩, ⟨a12, b12⟩, a9, b9⟩, ⟨⟨a2, b2⟩, ⟨a5, b5⟩, ⟨a3, b3⟩, ⟨a4, b4⟩, ⟨a6, b6⟩, ⟨a14, b14⟩, ⟨a7, b7⟩, a13, b13⟩, rF, rP, rL⟩ := id hN
  have hob : ∀ l, 0 ≤ l → l < N 4 → -1 ≤ o l ∧ o l ≤ 299 := fun l l0 l1 => OUTR_b (hoo l l0 l1) (rL l l0 l1).2.2.2.1.1
  refine gm_sz (gm_p_load (pc := 0) (i := .aload_n 0) (sr := 2) (j := 0) (by decide +kernel) rfl rfl rfl) ?_
  refine gm_c_virt (k := 1) (ci := 0) (mj := 24) (ix := 254) (pc := 1) (as := []) (st := []) (d' := d - 1) (bc' := 0) (bs' := 0) (by decide +kernel) (by decide +kernel) (by decide +kernel) (by decide +kernel) (e0k hE (k := 1) (c := 0) (by decide +kernel)).1 (e0k hE (k := 1) (c := 0) (by decide +kernel)).2 (by decide) (by decide +kernel) (show 0 = gm_na 24 by decide +kernel) fw_c0 (show 1 ≤ gm_ml 24 by decide +kernel) (Nat.le_of_ble_eq_true rfl) (by omega) (Nat.zero_le _) (Nat.zero_le _) ?_
  refine en_c24 (by omega) hE hT hN hfw hI hb15 hk15 (fun M24 hf24 hI24 h15 hen => ?_)
  show gm_Wp X LX d _ _ 65 4 _ [] n K _ _ Q
  have ho24 : ∀ l, 0 ≤ l → l < N 4 → M24 221 (l * 2 + 0) = o l := fun l l0 l1 => (OUTR_u (hen.2 l l0 l1) (hoo l l0 l1)).1
  refine gm_sz (gm_p_const (pc := 4) (i := .iconst 0) (v := gm_vi 0) (by decide +kernel) (by decide +kernel)) ?_
  refine gm_sz (gm_p_stor (pc := 5) (i := .istore_n 2) (sr := 0) (j := 2) (by decide +kernel) rfl (show 3 ≤ _ from Nat.le_of_ble_eq_true rfl) rfl) ?_
  refine gm_sz (gm_p_const (pc := 6) (i := .iconst 0) (v := gm_vi 0) (by decide +kernel) (by decide +kernel)) ?_
  refine gm_sz (gm_p_stor (pc := 7) (i := .istore_n 3) (sr := 0) (j := 3) (by decide +kernel) rfl (show 4 ≤ _ from Nat.le_of_ble_eq_true rfl) rfl) ?_
  exact wa_c (by omega) hE (ti_fr (W := [(206, some 2), (206, some 3), (206, some 4), (206, some 5), (206, some 6), (206, some 7), (206, some 8), (200, some 6), (204, none), (205, none), (220, some 3), (221, none), (1, some 15)]) hT (fr_t fr_0 hf24 (by decide)) (by decide) (by decide +kernel)) hN hen.1 ho24 hob hi (kv _) (N 4).toNat 0 _ (by omega)
theorem ii_68 (hd : 22 ≤ d) (hE : E0 n K R) (hT : TI N h sp M) (hN : NR N) (hfw : FLW X LX n K R N h sp FI φ) (hI : FI M) (hb15 : gm_ir (M 1 15)) (hk15 : ¬ M 1 15 = 0 → M 1 15 = 1 ∧ ENDS N h φ M) (hoo : ∀ l, 0 ≤ l → l < N 4 → OUTR N h φ l (o l) (dd l)) (kv : ∀ M2, Q (.inl (some (gm_vi (cnt (fun l => ¬ (¬ o l = -1 ∧ o l ≤ N 9)) (N 4).toNat)))) n K R M2) : gm_Wp X LX d bc bs 68 0 (gm_ent 68 [gm_vr 1]) [] n K R M Q := by
  obtain ⟨⟨⟨a0, b0⟩, ⟨a1, b1⟩, ⟨a10, b10⟩, ⟨a11, b11⟩, ⟨a12, b12⟩, a9, b9⟩, ⟨⟨a2, b2⟩, ⟨a5, b5⟩, ⟨a3, b3⟩, ⟨a4, b4⟩, ⟨a6, b6⟩, ⟨a14, b14⟩, ⟨a7, b7⟩, a13, b13⟩, rF, rP, rL⟩ := id hN
  have hob : ∀ l, 0 ≤ l → l < N 4 → -1 ≤ o l ∧ o l ≤ 299 := fun l l0 l1 => OUTR_b (hoo l l0 l1) (rL l l0 l1).2.2.2.1.1
  refine gm_sz (gm_p_load (pc := 0) (i := .aload_n 0) (sr := 2) (j := 0) (by decide +kernel) rfl rfl rfl) ?_
  refine gm_c_virt (k := 1) (ci := 0) (mj := 24) (ix := 254) (pc := 1) (as := []) (st := []) (d' := d - 1) (bc' := 0) (bs' := 0) (by decide +kernel) (by decide +kernel) (by decide +kernel) (by decide +kernel) (e0k hE (k := 1) (c := 0) (by decide +kernel)).1 (e0k hE (k := 1) (c := 0) (by decide +kernel)).2 (by decide) (by decide +kernel) (show 0 = gm_na 24 by decide +kernel) fw_c0 (show 1 ≤ gm_ml 24 by decide +kernel) (Nat.le_of_ble_eq_true rfl) (by omega) (Nat.zero_le _) (Nat.zero_le _) ?_
  refine en_c24 (by omega) hE hT hN hfw hI hb15 hk15 (fun M24 hf24 hI24 h15 hen => ?_)
  show gm_Wp X LX d _ _ 68 4 _ [] n K _ _ Q
  have ho24 : ∀ l, 0 ≤ l → l < N 4 → M24 221 (l * 2 + 0) = o l := fun l l0 l1 => (OUTR_u (hen.2 l l0 l1) (hoo l l0 l1)).1
  refine gm_sz (gm_p_const (pc := 4) (i := .iconst 0) (v := gm_vi 0) (by decide +kernel) (by decide +kernel)) ?_
  refine gm_sz (gm_p_stor (pc := 5) (i := .istore_n 1) (sr := 0) (j := 1) (by decide +kernel) rfl (show 2 ≤ _ from Nat.le_of_ble_eq_true rfl) rfl) ?_
  refine gm_sz (gm_p_const (pc := 6) (i := .iconst 0) (v := gm_vi 0) (by decide +kernel) (by decide +kernel)) ?_
  refine gm_sz (gm_p_stor (pc := 7) (i := .istore_n 2) (sr := 0) (j := 2) (by decide +kernel) rfl (show 3 ≤ _ from Nat.le_of_ble_eq_true rfl) rfl) ?_
  exact ii_c (by omega) hE (ti_fr (W := [(206, some 2), (206, some 3), (206, some 4), (206, some 5), (206, some 6), (206, some 7), (206, some 8), (200, some 6), (204, none), (205, none), (220, some 3), (221, none), (1, some 15)]) hT (fr_t fr_0 hf24 (by decide)) (by decide) (by decide +kernel)) hN hen.1 ho24 hob (kv _) (N 4).toNat 0 (by omega)
theorem cl_person (hd : 24 ≤ d) (hbc : 4 ≤ bc) (hbs : 24 ≤ bs) (hE : E0 n K R) (hT : TI N h sp M) (hN : NR N) (hfw : FLW X LX n K R N h sp FI φ) (hI : FI M) (hb15 : gm_ir (M 1 15)) (hk15 : ¬ M 1 15 = 0 → M 1 15 = 1 ∧ ENDS N h φ M) (hoo : ∀ l, 0 ≤ l → l < N 4 → OUTR N h φ l (o l) (dd l)) (hi : gm_ir p) (hi2 : gm_ir w) (kg : 0 ≤ p ∧ p < N 3 → 0 ≤ w → w < 3 → ∀ M2, Q (.inl (some (gm_vi (((N (95 + (p * 3 + w)))))))) n K R M2) (k3v : 0 ≤ p ∧ p < N 3 → w = 3 → ∀ M2, Q (.inl (some (gm_vi (cnt (fun l => (N (119 + (l * 7 + 0))) = p) (N 4).toNat)))) n K R M2) (k4v : 0 ≤ p ∧ p < N 3 → w = 4 → ∀ M2, Q (.inl (some (gm_vi (cnt (fun l => (N (119 + (l * 7 + 5))) = p) (N 4).toNat)))) n K R M2) (k5v : 0 ≤ p ∧ p < N 3 → w = 5 → ∀ M2, Q (.inl (some (gm_vi (cnt (fun l => (N (119 + (l * 7 + 1))) = p ∧ (¬ (N (119 + (l * 7 + 0))) = -1 ∧ (N (119 + (l * 7 + 5))) = -1 ∧ ¬ o l = -1 ∧ o l ≤ N 9)) (N 4).toNat)))) n K R M2) (kx3 : ¬ (0 ≤ p ∧ p < N 3) → Q (.inr 3) n K R M) (kx4 : 0 ≤ p ∧ p < N 3 → ¬ (0 ≤ w ∧ w ≤ 5) → Q (.inr 4) n K R M) : gm_Wp X LX d bc bs 138 0 (gm_ent 138 [gm_vr 1, gm_vi p, gm_vi w]) [] n K R M Q := by
  obtain ⟨⟨⟨a0, b0⟩, ⟨a1, b1⟩, ⟨a10, b10⟩, ⟨a11, b11⟩, ⟨a12, b12⟩, a9, b9⟩, ⟨⟨a2, b2⟩, ⟨a5, b5⟩, ⟨a3, b3⟩, ⟨a4, b4⟩, ⟨a6, b6⟩, ⟨a14, b14⟩, ⟨a7, b7⟩, a13, b13⟩, rF, rP, rL⟩ := id hN
  have hob : ∀ l, 0 ≤ l → l < N 4 → -1 ≤ o l ∧ o l ≤ 299 := fun l l0 l1 => OUTR_b (hoo l l0 l1) (rL l l0 l1).2.2.2.1.1
  refine gm_sz (gm_p_load (pc := 0) (i := .aload_n 0) (sr := 2) (j := 0) (by decide +kernel) rfl rfl rfl) ?_
  refine gm_sz (gm_p_load (pc := 1) (i := .iload_n 1) (sr := 0) (j := 1) (by decide +kernel) rfl rfl rfl) ?_
  refine gm_c_virt (k := 1) (ci := 0) (mj := 139) (ix := 180) (pc := 2) (as := [gm_vi p]) (st := []) (d' := d - 1) (bc' := 1) (bs' := 6) (by decide +kernel) (by decide +kernel) (by decide +kernel) (by decide +kernel) (e0k hE (k := 1) (c := 0) (by decide +kernel)).1 (e0k hE (k := 1) (c := 0) (by decide +kernel)).2 (by decide) (by decide +kernel) (show 1 = gm_na 139 by decide +kernel) (fw_c1 fw_si) (show 2 ≤ gm_ml 139 by decide +kernel) (Nat.le_of_ble_eq_true rfl) (by omega) (by omega) (by omega) ?_
  refine nd_139 (i := p) (by omega) (by omega) (by omega) hE hT hN hi (fun c2 => ?_) (fun c2 => ?_)
  · show gm_Wp X LX d _ _ 138 5 _ [] n K _ _ Q
    have c2 : 0 ≤ p ∧ p < N 3 := c2
    refine gm_sz (gm_p_load (pc := 5) (i := .iload_n 2) (sr := 0) (j := 2) (by decide +kernel) rfl rfl rfl) ?_
    refine gm_b_sw (pc := 6) (df := 71) (lo := 0) (hi := 5) (offs := #[38, 38, 38, 51, 58, 65]) (by decide +kernel) (by decide) (by decide) (fun h6 => ?_) ⟨fun h6 => ?_, fun h6 => ?_, fun h6 => ?_, fun h6 => ?_, fun h6 => ?_, fun h6 => ?_, trivial⟩
    · show gm_Wp X LX d _ _ 138 77 _ [] n K _ _ Q
      have h6 : w < 0 ∨ 5 < w := by rw [(gm_ir_w (x := w) hi2)] at h6; exact h6
      exact gm_throw (ik := 195) (is := 197) (ic := 199) (x := 4) (id := 34) (lw := false) (by decide +kernel) (by decide +kernel) (by decide +kernel) (by decide +kernel) (by decide +kernel) (by decide +kernel) (by decide +kernel) (by decide +kernel) (Nat.le_of_ble_eq_true rfl) (by omega) (by omega) (by omega) (kx4 (by omega) (by omega))
    · show gm_Wp X LX d _ _ 138 44 _ [] n K _ _ Q
      have h6 : w = 0 := (gm_ir_w (x := w) hi2).symm.trans h6
      refine gm_sz (gm_p_load (pc := 44) (i := .aload_n 0) (sr := 2) (j := 0) (by decide +kernel) rfl rfl rfl) ?_
      refine gm_sz (fw_gr (pc := 45) (ix := 23) (ci := 0) (j := 3) (r := 3) (by decide +kernel) (e0k hE (k := 1) (c := 0) (by decide +kernel)) (by decide +kernel) (by decide +kernel) (e0r hE (k := 1) (j := 3) (r := 3) (by decide +kernel))) ?_
      refine gm_sz (fw_gr (pc := 48) (ix := 183) (ci := 1) (j := 11) (r := 8) (by decide +kernel) (e0k hE (k := 3) (c := 1) (by decide +kernel)) (by decide +kernel) (by decide +kernel) (e0r hE (k := 3) (j := 11) (r := 8) (by decide +kernel))) ?_
      refine gm_sz (gm_p_load (pc := 51) (i := .iload_n 1) (sr := 0) (j := 1) (by decide +kernel) rfl rfl rfl) ?_
      refine gm_sz (gm_p_load (pc := 52) (i := .iload_n 2) (sr := 0) (j := 2) (by decide +kernel) rfl rfl rfl) ?_
      refine gm_c_virt (k := 8) (ci := 2) (mj := 10) (ix := 186) (pc := 53) (as := [gm_vi p, gm_vi w]) (st := []) (d' := d - 1) (bc' := 0) (bs' := 0) (by decide +kernel) (by decide +kernel) (by decide +kernel) (by decide +kernel) (e0k hE (k := 8) (c := 2) (by decide +kernel)).1 (e0k hE (k := 8) (c := 2) (by decide +kernel)).2 (by decide) (by decide +kernel) (show 2 = gm_na 10 by decide +kernel) (fw_c2 fw_si fw_si) (show 3 ≤ gm_ml 10 by decide +kernel) (Nat.le_of_ble_eq_true rfl) (by omega) (Nat.zero_le _) (Nat.zero_le _) ?_
      refine rw_get (s := N 3) (w := 3) (x := N (95 + (p * 3 + w))) (e0k hE (k := 8) (c := 2) (by decide +kernel)) (e0a hE (k := 9) (q := (0, 24)) (by decide +kernel)) (e0r hE (k := 8) (j := 2) (r := 9) (by decide +kernel)) (by decide) (ti_peo hT) (hT.1 (8, 1, 3) (by decide)) ⟨by omega, by omega⟩ ⟨by omega, by omega⟩ ⟨by omega, by omega⟩ ⟨by omega, by omega⟩ (ti_aP hT (by omega) (by omega)) ?_
      show gm_Wp X LX d _ _ 138 56 _ [gm_vi (N (95 + (p * 3 + w)))] n K _ _ Q
      exact gm_r_int (pc := 56) (by decide +kernel) (Or.inl (by decide +kernel)) (kg (by omega) (by omega) (by omega) _)
    · show gm_Wp X LX d _ _ 138 44 _ [] n K _ _ Q
      have h6 : w = 1 := (gm_ir_w (x := w) hi2).symm.trans h6
      refine gm_sz (gm_p_load (pc := 44) (i := .aload_n 0) (sr := 2) (j := 0) (by decide +kernel) rfl rfl rfl) ?_
      refine gm_sz (fw_gr (pc := 45) (ix := 23) (ci := 0) (j := 3) (r := 3) (by decide +kernel) (e0k hE (k := 1) (c := 0) (by decide +kernel)) (by decide +kernel) (by decide +kernel) (e0r hE (k := 1) (j := 3) (r := 3) (by decide +kernel))) ?_
      refine gm_sz (fw_gr (pc := 48) (ix := 183) (ci := 1) (j := 11) (r := 8) (by decide +kernel) (e0k hE (k := 3) (c := 1) (by decide +kernel)) (by decide +kernel) (by decide +kernel) (e0r hE (k := 3) (j := 11) (r := 8) (by decide +kernel))) ?_
      refine gm_sz (gm_p_load (pc := 51) (i := .iload_n 1) (sr := 0) (j := 1) (by decide +kernel) rfl rfl rfl) ?_
      refine gm_sz (gm_p_load (pc := 52) (i := .iload_n 2) (sr := 0) (j := 2) (by decide +kernel) rfl rfl rfl) ?_
      refine gm_c_virt (k := 8) (ci := 2) (mj := 10) (ix := 186) (pc := 53) (as := [gm_vi p, gm_vi w]) (st := []) (d' := d - 1) (bc' := 0) (bs' := 0) (by decide +kernel) (by decide +kernel) (by decide +kernel) (by decide +kernel) (e0k hE (k := 8) (c := 2) (by decide +kernel)).1 (e0k hE (k := 8) (c := 2) (by decide +kernel)).2 (by decide) (by decide +kernel) (show 2 = gm_na 10 by decide +kernel) (fw_c2 fw_si fw_si) (show 3 ≤ gm_ml 10 by decide +kernel) (Nat.le_of_ble_eq_true rfl) (by omega) (Nat.zero_le _) (Nat.zero_le _) ?_
      refine rw_get (s := N 3) (w := 3) (x := N (95 + (p * 3 + w))) (e0k hE (k := 8) (c := 2) (by decide +kernel)) (e0a hE (k := 9) (q := (0, 24)) (by decide +kernel)) (e0r hE (k := 8) (j := 2) (r := 9) (by decide +kernel)) (by decide) (ti_peo hT) (hT.1 (8, 1, 3) (by decide)) ⟨by omega, by omega⟩ ⟨by omega, by omega⟩ ⟨by omega, by omega⟩ ⟨by omega, by omega⟩ (ti_aP hT (by omega) (by omega)) ?_
      show gm_Wp X LX d _ _ 138 56 _ [gm_vi (N (95 + (p * 3 + w)))] n K _ _ Q
      exact gm_r_int (pc := 56) (by decide +kernel) (Or.inl (by decide +kernel)) (kg (by omega) (by omega) (by omega) _)
    · show gm_Wp X LX d _ _ 138 44 _ [] n K _ _ Q
      have h6 : w = 2 := (gm_ir_w (x := w) hi2).symm.trans h6
      refine gm_sz (gm_p_load (pc := 44) (i := .aload_n 0) (sr := 2) (j := 0) (by decide +kernel) rfl rfl rfl) ?_
      refine gm_sz (fw_gr (pc := 45) (ix := 23) (ci := 0) (j := 3) (r := 3) (by decide +kernel) (e0k hE (k := 1) (c := 0) (by decide +kernel)) (by decide +kernel) (by decide +kernel) (e0r hE (k := 1) (j := 3) (r := 3) (by decide +kernel))) ?_
      refine gm_sz (fw_gr (pc := 48) (ix := 183) (ci := 1) (j := 11) (r := 8) (by decide +kernel) (e0k hE (k := 3) (c := 1) (by decide +kernel)) (by decide +kernel) (by decide +kernel) (e0r hE (k := 3) (j := 11) (r := 8) (by decide +kernel))) ?_
      refine gm_sz (gm_p_load (pc := 51) (i := .iload_n 1) (sr := 0) (j := 1) (by decide +kernel) rfl rfl rfl) ?_
      refine gm_sz (gm_p_load (pc := 52) (i := .iload_n 2) (sr := 0) (j := 2) (by decide +kernel) rfl rfl rfl) ?_
      refine gm_c_virt (k := 8) (ci := 2) (mj := 10) (ix := 186) (pc := 53) (as := [gm_vi p, gm_vi w]) (st := []) (d' := d - 1) (bc' := 0) (bs' := 0) (by decide +kernel) (by decide +kernel) (by decide +kernel) (by decide +kernel) (e0k hE (k := 8) (c := 2) (by decide +kernel)).1 (e0k hE (k := 8) (c := 2) (by decide +kernel)).2 (by decide) (by decide +kernel) (show 2 = gm_na 10 by decide +kernel) (fw_c2 fw_si fw_si) (show 3 ≤ gm_ml 10 by decide +kernel) (Nat.le_of_ble_eq_true rfl) (by omega) (Nat.zero_le _) (Nat.zero_le _) ?_
      refine rw_get (s := N 3) (w := 3) (x := N (95 + (p * 3 + w))) (e0k hE (k := 8) (c := 2) (by decide +kernel)) (e0a hE (k := 9) (q := (0, 24)) (by decide +kernel)) (e0r hE (k := 8) (j := 2) (r := 9) (by decide +kernel)) (by decide) (ti_peo hT) (hT.1 (8, 1, 3) (by decide)) ⟨by omega, by omega⟩ ⟨by omega, by omega⟩ ⟨by omega, by omega⟩ ⟨by omega, by omega⟩ (ti_aP hT (by omega) (by omega)) ?_
      show gm_Wp X LX d _ _ 138 56 _ [gm_vi (N (95 + (p * 3 + w)))] n K _ _ Q
      exact gm_r_int (pc := 56) (by decide +kernel) (Or.inl (by decide +kernel)) (kg (by omega) (by omega) (by omega) _)
    · show gm_Wp X LX d _ _ 138 57 _ [] n K _ _ Q
      have h6 : w = 3 := (gm_ir_w (x := w) hi2).symm.trans h6
      refine gm_sz (gm_p_load (pc := 57) (i := .aload_n 0) (sr := 2) (j := 0) (by decide +kernel) rfl rfl rfl) ?_
      refine gm_sz (gm_p_const (pc := 58) (i := .iconst 0) (v := gm_vi 0) (by decide +kernel) (by decide +kernel)) ?_
      refine gm_sz (gm_p_load (pc := 59) (i := .iload_n 1) (sr := 0) (j := 1) (by decide +kernel) rfl rfl rfl) ?_
      refine gm_c_virt (k := 1) (ci := 0) (mj := 140) (ix := 189) (pc := 60) (as := [gm_vi 0, gm_vi p]) (st := []) (d' := d - 1) (bc' := 0) (bs' := 0) (by decide +kernel) (by decide +kernel) (by decide +kernel) (by decide +kernel) (e0k hE (k := 1) (c := 0) (by decide +kernel)).1 (e0k hE (k := 1) (c := 0) (by decide +kernel)).2 (by decide) (by decide +kernel) (show 2 = gm_na 140 by decide +kernel) (fw_c2 fw_si fw_si) (show 3 ≤ gm_ml 140 by decide +kernel) (Nat.le_of_ble_eq_true rfl) (by omega) (Nat.zero_le _) (Nat.zero_le _) ?_
      refine lw_140 (by omega) hE hT hN ⟨by decide, by decide⟩ (fun l l0 l1 => ⟨by have := (rL l l0 l1); omega, by have := (rL l l0 l1); omega⟩) hi ?_
      show gm_Wp X LX d _ _ 138 63 _ [gm_vi (cnt (fun l => (N (119 + (l * 7 + 0))) = p) (N 4).toNat)] n K _ _ Q
      exact gm_r_int (pc := 63) (by decide +kernel) (Or.inl (by decide +kernel)) (k3v (by omega) (by omega) _)
    · show gm_Wp X LX d _ _ 138 64 _ [] n K _ _ Q
      have h6 : w = 4 := (gm_ir_w (x := w) hi2).symm.trans h6
      refine gm_sz (gm_p_load (pc := 64) (i := .aload_n 0) (sr := 2) (j := 0) (by decide +kernel) rfl rfl rfl) ?_
      refine gm_sz (gm_p_const (pc := 65) (i := .iconst 5) (v := gm_vi 5) (by decide +kernel) (by decide +kernel)) ?_
      refine gm_sz (gm_p_load (pc := 66) (i := .iload_n 1) (sr := 0) (j := 1) (by decide +kernel) rfl rfl rfl) ?_
      refine gm_c_virt (k := 1) (ci := 0) (mj := 140) (ix := 189) (pc := 67) (as := [gm_vi 5, gm_vi p]) (st := []) (d' := d - 1) (bc' := 0) (bs' := 0) (by decide +kernel) (by decide +kernel) (by decide +kernel) (by decide +kernel) (e0k hE (k := 1) (c := 0) (by decide +kernel)).1 (e0k hE (k := 1) (c := 0) (by decide +kernel)).2 (by decide) (by decide +kernel) (show 2 = gm_na 140 by decide +kernel) (fw_c2 fw_si fw_si) (show 3 ≤ gm_ml 140 by decide +kernel) (Nat.le_of_ble_eq_true rfl) (by omega) (Nat.zero_le _) (Nat.zero_le _) ?_
      refine lw_140 (by omega) hE hT hN ⟨by decide, by decide⟩ (fun l l0 l1 => ⟨by have := (rL l l0 l1); omega, by have := (rL l l0 l1); omega⟩) hi ?_
      show gm_Wp X LX d _ _ 138 70 _ [gm_vi (cnt (fun l => (N (119 + (l * 7 + 5))) = p) (N 4).toNat)] n K _ _ Q
      exact gm_r_int (pc := 70) (by decide +kernel) (Or.inl (by decide +kernel)) (k4v (by omega) (by omega) _)
    · show gm_Wp X LX d _ _ 138 71 _ [] n K _ _ Q
      have h6 : w = 5 := (gm_ir_w (x := w) hi2).symm.trans h6
      refine gm_sz (gm_p_load (pc := 71) (i := .aload_n 0) (sr := 2) (j := 0) (by decide +kernel) rfl rfl rfl) ?_
      refine gm_sz (gm_p_load (pc := 72) (i := .iload_n 1) (sr := 0) (j := 1) (by decide +kernel) rfl rfl rfl) ?_
      refine gm_c_virt (k := 1) (ci := 0) (mj := 65) (ix := 192) (pc := 73) (as := [gm_vi p]) (st := []) (d' := d - 1) (bc' := 0) (bs' := 0) (by decide +kernel) (by decide +kernel) (by decide +kernel) (by decide +kernel) (e0k hE (k := 1) (c := 0) (by decide +kernel)).1 (e0k hE (k := 1) (c := 0) (by decide +kernel)).2 (by decide) (by decide +kernel) (show 1 = gm_na 65 by decide +kernel) (fw_c1 fw_si) (show 2 ≤ gm_ml 65 by decide +kernel) (Nat.le_of_ble_eq_true rfl) (by omega) (Nat.zero_le _) (Nat.zero_le _) ?_
      refine wa_65 (o := o) (dd := dd) (by omega) hE hT hN hfw hI hb15 hk15 hoo hi (fun M65 => ?_)
      show gm_Wp X LX d _ _ 138 76 _ [gm_vi (cnt (fun l => (p = -1 ∨ (N (119 + (l * 7 + 1))) = p) ∧ (¬ (N (119 + (l * 7 + 0))) = -1 ∧ (N (119 + (l * 7 + 5))) = -1 ∧ ¬ o l = -1 ∧ o l ≤ N 9)) (N 4).toNat)] n K _ _ Q
      rw [cnt_cg (p := (fun l => (p = -1 ∨ (N (119 + (l * 7 + 1))) = p) ∧ (¬ (N (119 + (l * 7 + 0))) = -1 ∧ (N (119 + (l * 7 + 5))) = -1 ∧ ¬ o l = -1 ∧ o l ≤ N 9))) (q := (fun l => (N (119 + (l * 7 + 1))) = p ∧ (¬ (N (119 + (l * 7 + 0))) = -1 ∧ (N (119 + (l * 7 + 5))) = -1 ∧ ¬ o l = -1 ∧ o l ≤ N 9))) (N 4).toNat (fun i _ => ⟨fun hh => ⟨by omega, hh.2⟩, fun hh => ⟨Or.inr hh.1, hh.2⟩⟩)]
      exact gm_r_int (pc := 76) (by decide +kernel) (Or.inl (by decide +kernel)) (k5v (by omega) (by omega) _)
  · show Q (.inr 3) n K _ _
    have c2 : ¬ (0 ≤ p ∧ p < N 3) := c2
    exact (kx3 (by omega))
theorem co_300 (hd : 22 ≤ d) (hE : E0 n K R) (hT : TR N h M) (hN : NR N) (hfw : FLR X LX n K R N h FI φ) (hI : FI M) (hoo : ∀ l, 0 ≤ l → l < N 4 → OUTR N h φ l (o l) (dd l)) (h0 : M 226 0 = 0) (hob : ∀ l, 0 ≤ l → l < N 4 → -1 ≤ o l ∧ o l ≤ 299) (hi : gm_ir y) (hw : 3 ≤ w ∧ w ≤ 5) (q3 : w = 3 → Q (.inl (some (gm_vi (cnt (fun l => (N (119 + (l * 7 + 0))) = y) (N 4).toNat)))) n K R M) (q4 : w = 4 → Q (.inl (some (gm_vi (cnt (fun l => (N (119 + (l * 7 + 5))) = y) (N 4).toNat)))) n K R M) (q5 : w = 5 → ∀ M2, M2 226 0 = 0 → Q (.inl (some (gm_vi (cnt (fun l => (N (119 + (l * 7 + 1))) = y ∧ (¬ (N (119 + (l * 7 + 0))) = -1 ∧ (N (119 + (l * 7 + 5))) = -1 ∧ ¬ o l = -1 ∧ o l ≤ N 9)) (N 4).toNat)))) n K R M2) : gm_Wp X LX d bc bs 300 0 (gm_ent 300 [gm_vr 226, gm_vi y, gm_vi w]) [] n K R M Q := by
  obtain ⟨⟨⟨a0, b0⟩, ⟨a1, b1⟩, ⟨a10, b10⟩, ⟨a11, b11⟩, ⟨a12, b12⟩, a9, b9⟩, ⟨⟨a2, b2⟩, ⟨a5, b5⟩, ⟨a3, b3⟩, ⟨a4, b4⟩, ⟨a6, b6⟩, ⟨a14, b14⟩, ⟨a7, b7⟩, a13, b13⟩, rF, rP, rL⟩ := id hN
  have hw9 : w = 3 ∨ w = 4 ∨ w = 5 := by omega
  rcases hw9 with rfl | rfl | rfl
  · refine gm_sz (gm_p_const (pc := 0) (i := .iconst 0) (v := gm_vi 0) (by decide +kernel) (by decide +kernel)) ?_
    refine gm_sz (gm_p_stor (pc := 1) (i := .istore_n 3) (sr := 0) (j := 3) (by decide +kernel) rfl (show 4 ≤ _ from Nat.le_of_ble_eq_true rfl) rfl) ?_
    refine gm_sz (gm_p_const (pc := 2) (i := .iconst 0) (v := gm_vi 0) (by decide +kernel) (by decide +kernel)) ?_
    refine gm_sz (gm_p_stor (pc := 3) (i := .istore 4) (sr := 0) (j := 4) (by decide +kernel) rfl (show 5 ≤ _ from Nat.le_of_ble_eq_true rfl) rfl) ?_
    exact co3_r (by omega) hE hT hN hi (q3 rfl) (N 4).toNat 0 _ (by omega)
  · refine gm_sz (gm_p_const (pc := 0) (i := .iconst 0) (v := gm_vi 0) (by decide +kernel) (by decide +kernel)) ?_
    refine gm_sz (gm_p_stor (pc := 1) (i := .istore_n 3) (sr := 0) (j := 3) (by decide +kernel) rfl (show 4 ≤ _ from Nat.le_of_ble_eq_true rfl) rfl) ?_
    refine gm_sz (gm_p_const (pc := 2) (i := .iconst 0) (v := gm_vi 0) (by decide +kernel) (by decide +kernel)) ?_
    refine gm_sz (gm_p_stor (pc := 3) (i := .istore 4) (sr := 0) (j := 4) (by decide +kernel) rfl (show 5 ≤ _ from Nat.le_of_ble_eq_true rfl) rfl) ?_
    exact co4_r (by omega) hE hT hN hi (q4 rfl) (N 4).toNat 0 _ (by omega)
  · refine gm_sz (gm_p_const (pc := 0) (i := .iconst 0) (v := gm_vi 0) (by decide +kernel) (by decide +kernel)) ?_
    refine gm_sz (gm_p_stor (pc := 1) (i := .istore_n 3) (sr := 0) (j := 3) (by decide +kernel) rfl (show 4 ≤ _ from Nat.le_of_ble_eq_true rfl) rfl) ?_
    refine gm_sz (gm_p_const (pc := 2) (i := .iconst 0) (v := gm_vi 0) (by decide +kernel) (by decide +kernel)) ?_
    refine gm_sz (gm_p_stor (pc := 3) (i := .istore 4) (sr := 0) (j := 4) (by decide +kernel) rfl (show 5 ≤ _ from Nat.le_of_ble_eq_true rfl) rfl) ?_
    exact co5_r (by omega) hE hT hN hfw hI hoo h0 hob hi (q5 rfl) (N 4).toNat 0 _ M (by omega) fr_0 hI
theorem re_person (hd : 24 ≤ d) (hE : E0 n K R) (hT : TR N h M) (hN : NR N) (hfw : FLR X LX n K R N h FI φ) (hI : FI M) (hoo : ∀ l, 0 ≤ l → l < N 4 → OUTR N h φ l (o l) (dd l)) (hi : gm_ir p) (hi2 : gm_ir w) (kg : 0 ≤ p ∧ p < N 3 → 0 ≤ w → w < 3 → ∀ M2, M2 226 0 = 0 → Q (.inl (some (gm_vi (((N (95 + (p * 3 + w)))))))) n K R M2) (k3v : 0 ≤ p ∧ p < N 3 → w = 3 → ∀ M2, M2 226 0 = 0 → Q (.inl (some (gm_vi (cnt (fun l => (N (119 + (l * 7 + 0))) = p) (N 4).toNat)))) n K R M2) (k4v : 0 ≤ p ∧ p < N 3 → w = 4 → ∀ M2, M2 226 0 = 0 → Q (.inl (some (gm_vi (cnt (fun l => (N (119 + (l * 7 + 5))) = p) (N 4).toNat)))) n K R M2) (k5v : 0 ≤ p ∧ p < N 3 → w = 5 → ∀ M2, M2 226 0 = 0 → Q (.inl (some (gm_vi (cnt (fun l => (N (119 + (l * 7 + 1))) = p ∧ (¬ (N (119 + (l * 7 + 0))) = -1 ∧ (N (119 + (l * 7 + 5))) = -1 ∧ ¬ o l = -1 ∧ o l ≤ N 9)) (N 4).toNat)))) n K R M2) (k1 : ¬ (0 ≤ p ∧ p < N 3) → ∀ M2, M2 226 0 = 1 → Q (.inl (some (gm_vi 0))) n K R M2) (k2 : 0 ≤ p ∧ p < N 3 → ¬ (0 ≤ w ∧ w ≤ 5) → ∀ M2, M2 226 0 = 2 → Q (.inl (some (gm_vi 0))) n K R M2) : gm_Wp X LX d bc bs 297 0 (gm_ent 297 [gm_vr 226, gm_vi p, gm_vi w]) [] n K R M Q := by
  obtain ⟨⟨⟨a0, b0⟩, ⟨a1, b1⟩, ⟨a10, b10⟩, ⟨a11, b11⟩, ⟨a12, b12⟩, a9, b9⟩, ⟨⟨a2, b2⟩, ⟨a5, b5⟩, ⟨a3, b3⟩, ⟨a4, b4⟩, ⟨a6, b6⟩, ⟨a14, b14⟩, ⟨a7, b7⟩, a13, b13⟩, rF, rP, rL⟩ := id hN
  have hob : ∀ l, 0 ≤ l → l < N 4 → -1 ≤ o l ∧ o l ≤ 299 := fun l l0 l1 => OUTR_b (hoo l l0 l1) (rL l l0 l1).2.2.2.1.1
  refine gm_sz (gm_p_load (pc := 0) (i := .aload_n 0) (sr := 2) (j := 0) (by decide +kernel) rfl rfl rfl) ?_
  refine gm_sz (gm_p_const (pc := 1) (i := .iconst 0) (v := gm_vi 0) (by decide +kernel) (by decide +kernel)) ?_
  refine gm_sz (fw_pi (pc := 2) (ix := 3) (ci := 11) (j := 0) (M' := gm_uM M 226 0 0) (by decide +kernel) (e0k hE (k := 226) (c := 11) (by decide +kernel)) (by decide +kernel) (by decide +kernel) (by decide +kernel) rfl) ?_
  refine gm_sz (gm_p_load (pc := 5) (i := .aload_n 0) (sr := 2) (j := 0) (by decide +kernel) rfl rfl rfl) ?_
  refine gm_sz (gm_p_load (pc := 6) (i := .aload_n 0) (sr := 2) (j := 0) (by decide +kernel) rfl rfl rfl) ?_
  refine gm_sz (gm_p_load (pc := 7) (i := .iload_n 1) (sr := 0) (j := 1) (by decide +kernel) rfl rfl rfl) ?_
  refine gm_c_virt (k := 226) (ci := 11) (mj := 298) (ix := 393) (pc := 8) (as := [gm_vi p]) (st := [gm_vr 226]) (d' := d - 1) (bc' := 0) (bs' := 0) (by decide +kernel) (by decide +kernel) (by decide +kernel) (by decide +kernel) (e0k hE (k := 226) (c := 11) (by decide +kernel)).1 (e0k hE (k := 226) (c := 11) (by decide +kernel)).2 (by decide) (by decide +kernel) (show 1 = gm_na 298 by decide +kernel) (fw_c1 fw_si) (show 2 ≤ gm_ml 298 by decide +kernel) (Nat.le_of_ble_eq_true rfl) (by omega) (Nat.zero_le _) (Nat.zero_le _) ?_
  refine no_298 (i := p) (by omega) hE (tr_fr (W := [(226, some 0)]) hT (fr_p fr_0 (Or.inr (by decide))) (by decide)) hN hi (fun n8 => ?_) (fun n8 => ?_)
  · show gm_Wp X LX d _ _ 297 11 _ [gm_vi 1, gm_vr 226] n K _ _ Q
    have n8 : ¬ (0 ≤ p ∧ p < N 3) := n8
    refine gm_sz (gm_p_const (pc := 11) (i := .iconst 1) (v := gm_vi 1) (by decide +kernel) (by decide +kernel)) ?_
    refine gm_c_virt (k := 226) (ci := 11) (mj := 282) (ix := 300) (pc := 12) (as := [gm_vi 1, gm_vi 1]) (st := []) (d' := d - 1) (bc' := 0) (bs' := 0) (by decide +kernel) (by decide +kernel) (by decide +kernel) (by decide +kernel) (e0k hE (k := 226) (c := 11) (by decide +kernel)).1 (e0k hE (k := 226) (c := 11) (by decide +kernel)).2 (by decide) (by decide +kernel) (show 2 = gm_na 282 by decide +kernel) (fw_c2 fw_si fw_si) (show 3 ≤ gm_ml 282 by decide +kernel) (Nat.le_of_ble_eq_true rfl) (by omega) (Nat.zero_le _) (Nat.zero_le _) ?_
    refine tf_1 hE ?_
    show gm_Wp X LX d _ _ 297 15 _ [gm_vi 1] n K _ _ Q
    refine fw_iftd (cc := .ne) (pc := 15) (off := 25) (by decide +kernel) (by decide) ⟨by decide, by decide⟩ (by decide) ?_
    refine gm_sz (gm_p_const (pc := 40) (i := .iconst 0) (v := gm_vi 0) (by decide +kernel) (by decide +kernel)) ?_
    exact gm_r_int (pc := 41) (by decide +kernel) (Or.inl (by decide +kernel)) (k1 (by omega) _ uM_at)
  · show gm_Wp X LX d _ _ 297 11 _ [gm_vi 0, gm_vr 226] n K _ _ Q
    have n8 : 0 ≤ p ∧ p < N 3 := n8
    refine gm_sz (gm_p_const (pc := 11) (i := .iconst 1) (v := gm_vi 1) (by decide +kernel) (by decide +kernel)) ?_
    refine gm_c_virt (k := 226) (ci := 11) (mj := 282) (ix := 300) (pc := 12) (as := [gm_vi 0, gm_vi 1]) (st := []) (d' := d - 1) (bc' := 0) (bs' := 0) (by decide +kernel) (by decide +kernel) (by decide +kernel) (by decide +kernel) (e0k hE (k := 226) (c := 11) (by decide +kernel)).1 (e0k hE (k := 226) (c := 11) (by decide +kernel)).2 (by decide) (by decide +kernel) (show 2 = gm_na 282 by decide +kernel) (fw_c2 fw_si fw_si) (show 3 ≤ gm_ml 282 by decide +kernel) (Nat.le_of_ble_eq_true rfl) (by omega) (Nat.zero_le _) (Nat.zero_le _) ?_
    refine tf_0 hE ?_
    show gm_Wp X LX d _ _ 297 15 _ [gm_vi 0] n K _ _ Q
    refine fw_iffd (cc := .ne) (pc := 15) (off := 25) (by decide +kernel) (by decide) ⟨by decide, by decide⟩ (by decide) ?_
    refine gm_sz (gm_p_load (pc := 18) (i := .aload_n 0) (sr := 2) (j := 0) (by decide +kernel) rfl rfl rfl) ?_
    refine gm_sz (gm_p_load (pc := 19) (i := .iload_n 2) (sr := 0) (j := 2) (by decide +kernel) rfl rfl rfl) ?_
    refine gm_sz (gm_p_const (pc := 20) (i := .iconst 0) (v := gm_vi 0) (by decide +kernel) (by decide +kernel)) ?_
    refine gm_sz (gm_p_const (pc := 21) (i := .iconst 5) (v := gm_vi 5) (by decide +kernel) (by decide +kernel)) ?_
    refine gm_c_stat (mj := 286) (ix := 90) (pc := 22) (as := [gm_vi w, gm_vi 0, gm_vi 5]) (st := [gm_vr 226]) (d' := d - 1) (bc' := 0) (bs' := 0) (by decide +kernel) (by decide +kernel) (by decide +kernel) (by decide +kernel) (show 3 = gm_na 286 by decide +kernel) (fw_c3 fw_si fw_si fw_si) (show 3 ≤ gm_ml 286 by decide +kernel) (Nat.le_of_ble_eq_true rfl) (by omega) (Nat.zero_le _) (Nat.zero_le _) ?_
    refine in_286 (x := w) (y := 0) (z := 5) hi2 ⟨by decide, by decide⟩ ⟨by decide, by decide⟩ (fun k22a k22 => ?_) (fun k22 => ?_)
    · show gm_Wp X LX d _ _ 297 25 _ [gm_vi 1, gm_vr 226] n K _ _ Q
      have k22a : 0 ≤ w := k22a
      have k22 : w ≤ 5 := k22
      refine fw_iftd (cc := .ne) (pc := 25) (off := 7) (by decide +kernel) (by decide) ⟨by decide, by decide⟩ (by decide) ?_
      refine gm_sz (gm_p_const (pc := 32) (i := .iconst 0) (v := gm_vi 0) (by decide +kernel) (by decide +kernel)) ?_
      refine gm_sz (gm_p_const (pc := 33) (i := .iconst 2) (v := gm_vi 2) (by decide +kernel) (by decide +kernel)) ?_
      refine gm_c_virt (k := 226) (ci := 11) (mj := 282) (ix := 300) (pc := 34) (as := [gm_vi 0, gm_vi 2]) (st := []) (d' := d - 1) (bc' := 0) (bs' := 0) (by decide +kernel) (by decide +kernel) (by decide +kernel) (by decide +kernel) (e0k hE (k := 226) (c := 11) (by decide +kernel)).1 (e0k hE (k := 226) (c := 11) (by decide +kernel)).2 (by decide) (by decide +kernel) (show 2 = gm_na 282 by decide +kernel) (fw_c2 fw_si fw_si) (show 3 ≤ gm_ml 282 by decide +kernel) (Nat.le_of_ble_eq_true rfl) (by omega) (Nat.zero_le _) (Nat.zero_le _) ?_
      refine tf_0 hE ?_
      show gm_Wp X LX d _ _ 297 37 _ [gm_vi 0] n K _ _ Q
      refine fw_iftd (cc := .eq) (pc := 37) (off := 5) (by decide +kernel) (by decide) ⟨by decide, by decide⟩ (by decide) ?_
      refine gm_sz (gm_p_load (pc := 42) (i := .iload_n 2) (sr := 0) (j := 2) (by decide +kernel) rfl rfl rfl) ?_
      refine gm_sz (gm_p_const (pc := 43) (i := .iconst 3) (v := gm_vi 3) (by decide +kernel) (by decide +kernel)) ?_
      refine fw_ic (cc := .ge) (pc := 44) (off := 12) (by decide +kernel) (by decide) hi2 ⟨by decide, by decide⟩ (fun h44 => ?_) (fun h44 => ?_)
      · have h44 : 3 ≤ w := h44
        refine gm_sz (gm_p_load (pc := 56) (i := .aload_n 0) (sr := 2) (j := 0) (by decide +kernel) rfl rfl rfl) ?_
        refine gm_sz (gm_p_load (pc := 57) (i := .iload_n 1) (sr := 0) (j := 1) (by decide +kernel) rfl rfl rfl) ?_
        refine gm_sz (gm_p_load (pc := 58) (i := .iload_n 2) (sr := 0) (j := 2) (by decide +kernel) rfl rfl rfl) ?_
        refine gm_c_virt (k := 226) (ci := 11) (mj := 300) (ix := 399) (pc := 59) (as := [gm_vi p, gm_vi w]) (st := []) (d' := d - 1) (bc' := 0) (bs' := 0) (by decide +kernel) (by decide +kernel) (by decide +kernel) (by decide +kernel) (e0k hE (k := 226) (c := 11) (by decide +kernel)).1 (e0k hE (k := 226) (c := 11) (by decide +kernel)).2 (by decide) (by decide +kernel) (show 2 = gm_na 300 by decide +kernel) (fw_c2 fw_si fw_si) (show 3 ≤ gm_ml 300 by decide +kernel) (Nat.le_of_ble_eq_true rfl) (by omega) (Nat.zero_le _) (Nat.zero_le _) ?_
        refine co_300 (y := p) (w := w) (o := o) (dd := dd) (by omega) hE (tr_fr (W := [(226, some 0)]) hT (fr_p fr_0 (Or.inr (by decide))) (by decide)) hN hfw (hfw.2.1 [(226, some 0)] _ _ (by decide) (fr_p fr_0 (Or.inr (by decide))) hI) hoo uM_at hob hi ⟨by omega, by omega⟩ (fun w3 => ?_) (fun w3 => ?_) (fun w3 M30 h030 => ?_)
        · show gm_Wp X LX d _ _ 297 62 _ [gm_vi (cnt (fun l => (N (119 + (l * 7 + 0))) = p) (N 4).toNat)] n K _ _ Q
          exact gm_r_int (pc := 62) (by decide +kernel) (Or.inl (by decide +kernel)) (k3v (by omega) (by omega) _ uM_at)
        · show gm_Wp X LX d _ _ 297 62 _ [gm_vi (cnt (fun l => (N (119 + (l * 7 + 5))) = p) (N 4).toNat)] n K _ _ Q
          exact gm_r_int (pc := 62) (by decide +kernel) (Or.inl (by decide +kernel)) (k4v (by omega) (by omega) _ uM_at)
        · show gm_Wp X LX d _ _ 297 62 _ [gm_vi (cnt (fun l => (N (119 + (l * 7 + 1))) = p ∧ (¬ (N (119 + (l * 7 + 0))) = -1 ∧ (N (119 + (l * 7 + 5))) = -1 ∧ ¬ o l = -1 ∧ o l ≤ N 9)) (N 4).toNat)] n K _ _ Q
          exact gm_r_int (pc := 62) (by decide +kernel) (Or.inl (by decide +kernel)) (k5v (by omega) (by omega) _ h030)
      · have h44 : ¬ 3 ≤ w := h44
        refine gm_sz (gm_p_load (pc := 47) (i := .aload_n 0) (sr := 2) (j := 0) (by decide +kernel) rfl rfl rfl) ?_
        refine gm_sz (gm_p_load (pc := 48) (i := .iload_n 1) (sr := 0) (j := 1) (by decide +kernel) rfl rfl rfl) ?_
        refine gm_sz (gm_p_load (pc := 49) (i := .iload_n 2) (sr := 0) (j := 2) (by decide +kernel) rfl rfl rfl) ?_
        refine gm_c_virt (k := 226) (ci := 11) (mj := 299) (ix := 396) (pc := 50) (as := [gm_vi p, gm_vi w]) (st := []) (d' := d - 1) (bc' := 0) (bs' := 0) (by decide +kernel) (by decide +kernel) (by decide +kernel) (by decide +kernel) (e0k hE (k := 226) (c := 11) (by decide +kernel)).1 (e0k hE (k := 226) (c := 11) (by decide +kernel)).2 (by decide) (by decide +kernel) (show 2 = gm_na 299 by decide +kernel) (fw_c2 fw_si fw_si) (show 3 ≤ gm_ml 299 by decide +kernel) (Nat.le_of_ble_eq_true rfl) (by omega) (Nat.zero_le _) (Nat.zero_le _) ?_
        refine re_of hE (tr_fr (W := [(226, some 0)]) hT (fr_p fr_0 (Or.inr (by decide))) (by decide)) hN ⟨by omega, by omega⟩ ⟨by omega, by omega⟩ ?_
        show gm_Wp X LX d _ _ 297 53 _ [gm_vi (N (95 + (p * 3 + w)))] n K _ _ Q
        refine gm_sz (gm_p_goto (pc := 53) (off := 9) (by decide +kernel) (by decide)) ?_
        exact gm_r_int (pc := 62) (by decide +kernel) (Or.inl (by decide +kernel)) (kg (by omega) (by omega) (by omega) _ uM_at)
    · show gm_Wp X LX d _ _ 297 25 _ [gm_vi 0, gm_vr 226] n K _ _ Q
      have k22 : ¬ (0 ≤ w ∧ w ≤ 5) := k22
      refine fw_iffd (cc := .ne) (pc := 25) (off := 7) (by decide +kernel) (by decide) ⟨by decide, by decide⟩ (by decide) ?_
      refine gm_sz (gm_p_const (pc := 28) (i := .iconst 1) (v := gm_vi 1) (by decide +kernel) (by decide +kernel)) ?_
      refine gm_sz (gm_p_goto (pc := 29) (off := 4) (by decide +kernel) (by decide)) ?_
      refine gm_sz (gm_p_const (pc := 33) (i := .iconst 2) (v := gm_vi 2) (by decide +kernel) (by decide +kernel)) ?_
      refine gm_c_virt (k := 226) (ci := 11) (mj := 282) (ix := 300) (pc := 34) (as := [gm_vi 1, gm_vi 2]) (st := []) (d' := d - 1) (bc' := 0) (bs' := 0) (by decide +kernel) (by decide +kernel) (by decide +kernel) (by decide +kernel) (e0k hE (k := 226) (c := 11) (by decide +kernel)).1 (e0k hE (k := 226) (c := 11) (by decide +kernel)).2 (by decide) (by decide +kernel) (show 2 = gm_na 282 by decide +kernel) (fw_c2 fw_si fw_si) (show 3 ≤ gm_ml 282 by decide +kernel) (Nat.le_of_ble_eq_true rfl) (by omega) (Nat.zero_le _) (Nat.zero_le _) ?_
      refine tf_1 hE ?_
      show gm_Wp X LX d _ _ 297 37 _ [gm_vi 1] n K _ _ Q
      refine fw_iffd (cc := .eq) (pc := 37) (off := 5) (by decide +kernel) (by decide) ⟨by decide, by decide⟩ (by decide) ?_
      refine gm_sz (gm_p_const (pc := 40) (i := .iconst 0) (v := gm_vi 0) (by decide +kernel) (by decide +kernel)) ?_
      exact gm_r_int (pc := 41) (by decide +kernel) (Or.inl (by decide +kernel)) (k2 (by omega) (by omega) _ uM_at)
end LE54
section LE54B
variable {X : Int → Int} {LX d bc bs n g z g1 : Nat} {la : Nat → Nat} {K : gm_K} {R : gm_R} {M : gm_M} {N : Int → Int} {lw : Option (List lln)} {A : List (Int → Int)} {im : Option ((Int → Int) × Option (List lln))} {t w : Int} {f : Int → Int} {a b c e : Int} {NC : Nat} {C Ln G : Int → Int}
noncomputable def ao (lw : Option (List lln)) (N : Int → Int) (l : Int) : Int := aout N (hts (N 13)) (aphi lw N (hts (N 13))) l
theorem hb_of {M : gm_M} {P : Prop} (h : M 1 15 = 0 ∨ (M 1 15 = 1 ∧ P)) : gm_ir (M 1 15) := by
  rcases h with h | ⟨h, -⟩ <;> rw [h] <;> exact ⟨by decide, by decide⟩
theorem hk_of {M : gm_M} {P : Prop} (h : M 1 15 = 0 ∨ (M 1 15 = 1 ∧ P)) : ¬ M 1 15 = 0 → M 1 15 = 1 ∧ P := fun hn => h.resolve_left hn
noncomputable def q_lost (lw : Option (List lln)) (N : Int → Int) : Int × Int := (0, bts (fun l => ao lw N l = -1) (N 4).toNat)
theorem iq_lost : gm_ir (q_lost lw N).1 := by
  unfold q_lost
  exact (show (-2147483648 : Int) ≤ 0 ∧ (0 : Int) < 2147483648 from by decide)
theorem z_lost : (q_lost lw N).1 = 0 := by
  unfold q_lost
  exact rfl
theorem cq_lost (hd : 24 ≤ d) (hbc : 4 ≤ bc) (hbs : 24 ≤ bs) (hE : E0 n K R) (hK : K 245 = (2, 1)) (hc : CC n K R NC C Ln G lw) (hL : LBX NC C Ln lw M) (hG : GJ N) (hV : CLV N lw A im t w f M) : gm_Wp X LX d bc bs 23 0 (gm_ent 23 [gm_vr 1]) [] n K R M (CF (q_lost lw N).2 none) := by
  exact cl_lost (o := ao lw N) (dd := adp N (hts (N 13)) (aphi lw N (hts (N 13)))) hd hbc hbs hE hV.1.1 hG.1.1 (flw_a hE hc hG.1.1 hG.1.2.1) (fic_of hL hV) (hb_of hV.2.1) (hk_of hV.2.1) (fun l _ _ => aout_s l) (fun M2 => ⟨hK, rfl, fun v e => nomatch e⟩)
theorem rq_lost (hd : 24 ≤ d) (hE : E0 n K R) (hT : jT fun j => M 227 (395 + j)) (hS6 : NSb 6 N) (hG : GJ N) (hV : RFV N lw A im t w f M) : gm_Wp X LX d bc bs 330 0 (gm_ent 330 [gm_vr 226]) [] n K R M (RF (q_lost lw N).1 (q_lost lw N).2) := by
  have k226 := k226 hE
  exact re_lost (o := ao lw N) (dd := adp N (hts (N 13)) (aphi lw N (hts (N 13)))) hd hE hV.1.1 hG.1.1 (flr_a hE (lawg_of hV.1.2.1 hT) hgeo_r hG.1.1 hG.1.1 hS6) ⟨hV.2.1, fun _ _ => rfl⟩ (fun l _ _ => aout_s l) (fun M2 h0 => rf_e k226 (rfl) (fun _ => rfl) h0)
theorem fw_lost (hb : bg g la K R M) (hR : REL la K M N lw A im t w f) : ∀ z g1, bs_ok la z g1 → ¬ z = 100003 → gm_Wp X LX 279 6 600 23 0 (gm_ent 23 (gm_vr 1 :: ([] : List Int).map gm_vi)) [] (245 + 4 * g1) (bs_K la K) (bs_R z g1) (bs_M la M) (CF (q_lost lw N).2 none) := by
  intro z g1 hz hz3
  have hE := e0_w hb hz
  obtain ⟨NC, C, Ln, hcc, hlb⟩ := cc_w hb hz hz3 hR.2.1.1 hR.2.2.2.1.2.1
  exact cq_lost (by decide) (by decide) (by decide) hE (k245 hE).2 hcc hlb hR.1.1 (clv_w hb hR.2.2.1)
theorem fm_lost (hb : bg g la K R M) (hR : REL la K M N lw A im t w f) : gm_Wp X LX 279 6 600 330 0 (gm_ent 330 (gm_vr 226 :: ([] : List Int).map gm_vi)) [] 245 (bs_K la K) (bs_R 100003 0) (bs_M la M) (RF (q_lost lw N).1 (q_lost lw N).2) := rq_lost (by decide) (e0_w hb (Or.inr (Or.inl ⟨rfl, rfl⟩))) (gJ_w hb) (ns6 (bs_F0 (z := 100003) hb) (rfv_w (la := la) hR.2.2.2).1.1.1 hR.1.1.1.1) hR.1.1 (rfv_w hR.2.2.2)
noncomputable def q_outs (lw : Option (List lln)) (N : Int → Int) (a : Int) : Int × Int := tif (¬ (0 ≤ a ∧ a ≤ 299)) (1, 0) (0, cnt (fun l => ao lw N l = a) (N 4).toNat)
theorem iq_outs : gm_ir (q_outs lw N a).1 := by
  unfold q_outs
  exact tif_ir (show (-2147483648 : Int) ≤ 1 ∧ (1 : Int) < 2147483648 from by decide) ((show (-2147483648 : Int) ≤ 0 ∧ (0 : Int) < 2147483648 from by decide))
theorem cq_outs (hd : 24 ≤ d) (hbc : 4 ≤ bc) (hbs : 24 ≤ bs) (hE : E0 n K R) (hn : 245 ≤ n) (hK : K 245 = (2, 1)) (hc : CC n K R NC C Ln G lw) (hL : LBX NC C Ln lw M) (hG : GJ N) (hV : CLV N lw A im t w f M) (ia : gm_ir a) : gm_Wp X LX d bc bs 223 0 (gm_ent 223 [gm_vr 1, gm_vi a]) [] n K R M (hQ [(0, 1)] (CF (q_outs lw N a).1 (oV (q_outs lw N a).1 (q_outs lw N a).2))) := by
  exact cl_outs (o := ao lw N) (dd := adp N (hts (N 13)) (aphi lw N (hts (N 13)))) hd hbc hbs hE hV.1.1 hG.1.1 (flw_a hE hc hG.1.1 hG.1.2.1) (fic_of hL hV) (hb_of hV.2.1) (hk_of hV.2.1) (fun l _ _ => aout_s l) ia (fun h M2 => hQ_v hn hK (cf_v hK (tif_f (fun hh => hh h)) rfl)) (fun h => hQ_x hn hK (c := 1) (by decide) (cf_x hK (tif_t h) (by decide)))
theorem rq_outs (hd : 24 ≤ d) (hE : E0 n K R) (hT : jT fun j => M 227 (395 + j)) (hS6 : NSb 6 N) (hG : GJ N) (hV : RFV N lw A im t w f M) (ia : gm_ir a) : gm_Wp X LX d bc bs 361 0 (gm_ent 361 [gm_vr 226, gm_vi a]) [] n K R M (RF (q_outs lw N a).1 (q_outs lw N a).2) := by
  have k226 := k226 hE
  exact re_outs (o := ao lw N) (dd := adp N (hts (N 13)) (aphi lw N (hts (N 13)))) hd hE hV.1.1 hG.1.1 (flr_a hE (lawg_of hV.1.2.1 hT) hgeo_r hG.1.1 hG.1.1 hS6) ⟨hV.2.1, fun _ _ => rfl⟩ (fun l _ _ => aout_s l) ia (fun h M2 h0 => rf_e k226 (tif_f (fun hh => hh h)) (fun _ => rfl) h0) (fun h M2 h0 => rf_e k226 (tif_t h) (fun e => absurd e (by decide)) h0)
theorem fw_outs (hb : bg g la K R M) (hR : REL la K M N lw A im t w f) (ia : gm_ir a) : ∀ z g1, bs_ok la z g1 → ¬ z = 100003 → gm_Wp X LX 279 6 600 222 0 (gm_ent 222 (gm_vr 1 :: bc_as [a] true)) [] (245 + 4 * g1) (bs_K la K) (bs_R z g1) (bs_M la M) (CF (q_outs lw N a).1 (oV (q_outs lw N a).1 (q_outs lw N a).2)) := by
  intro z g1 hz hz3
  have hE := e0_w hb hz
  obtain ⟨NC, C, Ln, hcc, hlb⟩ := cc_w hb hz hz3 hR.2.1.1 hR.2.2.2.1.2.1
  exact hl_222 (d := 278) (k1_e hE) (cq_outs (by decide) (by decide) (by decide) hE (k245 hE).1 (k245 hE).2 hcc hlb hR.1.1 (clv_w hb hR.2.2.1) ia)
theorem fm_outs (hb : bg g la K R M) (hR : REL la K M N lw A im t w f) (ia : gm_ir a) : gm_Wp X LX 279 6 600 361 0 (gm_ent 361 (gm_vr 226 :: [a].map gm_vi)) [] 245 (bs_K la K) (bs_R 100003 0) (bs_M la M) (RF (q_outs lw N a).1 (q_outs lw N a).2) := rq_outs (by decide) (e0_w hb (Or.inr (Or.inl ⟨rfl, rfl⟩))) (gJ_w hb) (ns6 (bs_F0 (z := 100003) hb) (rfv_w (la := la) hR.2.2.2).1.1.1 hR.1.1.1.1) hR.1.1 (rfv_w hR.2.2.2) ia
noncomputable def q_streams (lw : Option (List lln)) (N : Int → Int) (a : Int) (b : Int) : Int × Int := tif (¬ (0 ≤ a ∧ a ≤ 299)) (1, 0) (0, cnt (fun l => ((b = 1 ∧ N 12 ≤ (N (119 + (l * 7 + 2)))) ∨ (b = 0 ∧ (N (119 + (l * 7 + 2))) < N 12)) ∧ (¬ ao lw N l = -1 ∧ ao lw N l ≤ a)) (N 4).toNat)
theorem iq_streams : gm_ir (q_streams lw N a b).1 := by
  unfold q_streams
  exact tif_ir (show (-2147483648 : Int) ≤ 1 ∧ (1 : Int) < 2147483648 from by decide) ((show (-2147483648 : Int) ≤ 0 ∧ (0 : Int) < 2147483648 from by decide))
theorem cq_streams (hd : 24 ≤ d) (hbc : 4 ≤ bc) (hbs : 24 ≤ bs) (hE : E0 n K R) (hn : 245 ≤ n) (hK : K 245 = (2, 1)) (hc : CC n K R NC C Ln G lw) (hL : LBX NC C Ln lw M) (hG : GJ N) (hV : CLV N lw A im t w f M) (ia : gm_ir a) (ib : 0 ≤ b ∧ b ≤ 1) : gm_Wp X LX d bc bs 225 0 (gm_ent 225 [gm_vr 1, gm_vi a, gm_vi b]) [] n K R M (hQ [(0, 1)] (CF (q_streams lw N a b).1 (oV (q_streams lw N a b).1 (q_streams lw N a b).2))) := by
  exact cl_streams (o := ao lw N) (dd := adp N (hts (N 13)) (aphi lw N (hts (N 13)))) hd hbc hbs hE hV.1.1 hG.1.1 (flw_a hE hc hG.1.1 hG.1.2.1) (fic_of hL hV) (hb_of hV.2.1) (hk_of hV.2.1) (fun l _ _ => aout_s l) ia ib (fun h M2 => hQ_v hn hK (cf_v hK (tif_f (fun hh => hh h)) rfl)) (fun h => hQ_x hn hK (c := 1) (by decide) (cf_x hK (tif_t h) (by decide)))
theorem rq_streams (hd : 24 ≤ d) (hE : E0 n K R) (hT : jT fun j => M 227 (395 + j)) (hS6 : NSb 6 N) (hG : GJ N) (hV : RFV N lw A im t w f M) (ia : gm_ir a) (ib : 0 ≤ b ∧ b ≤ 1) : gm_Wp X LX d bc bs 363 0 (gm_ent 363 [gm_vr 226, gm_vi a, gm_vi b]) [] n K R M (RF (q_streams lw N a b).1 (q_streams lw N a b).2) := by
  have k226 := k226 hE
  exact re_streams (o := ao lw N) (dd := adp N (hts (N 13)) (aphi lw N (hts (N 13)))) hd hE hV.1.1 hG.1.1 (flr_a hE (lawg_of hV.1.2.1 hT) hgeo_r hG.1.1 hG.1.1 hS6) ⟨hV.2.1, fun _ _ => rfl⟩ (fun l _ _ => aout_s l) ia ib (fun h M2 h0 => rf_e k226 (tif_f (fun hh => hh h)) (fun _ => rfl) h0) (fun h M2 h0 => rf_e k226 (tif_t h) (fun e => absurd e (by decide)) h0)
theorem fw_streams (hb : bg g la K R M) (hR : REL la K M N lw A im t w f) (ia : gm_ir a) (ib : 0 ≤ b ∧ b ≤ 1) : ∀ z g1, bs_ok la z g1 → ¬ z = 100003 → gm_Wp X LX 279 6 600 224 0 (gm_ent 224 (gm_vr 1 :: bc_as [a, b] true)) [] (245 + 4 * g1) (bs_K la K) (bs_R z g1) (bs_M la M) (CF (q_streams lw N a b).1 (oV (q_streams lw N a b).1 (q_streams lw N a b).2)) := by
  intro z g1 hz hz3
  have hE := e0_w hb hz
  obtain ⟨NC, C, Ln, hcc, hlb⟩ := cc_w hb hz hz3 hR.2.1.1 hR.2.2.2.1.2.1
  exact hl_224 (d := 278) (k1_e hE) (cq_streams (by decide) (by decide) (by decide) hE (k245 hE).1 (k245 hE).2 hcc hlb hR.1.1 (clv_w hb hR.2.2.1) ia ib)
theorem fm_streams (hb : bg g la K R M) (hR : REL la K M N lw A im t w f) (ia : gm_ir a) (ib : 0 ≤ b ∧ b ≤ 1) : gm_Wp X LX 279 6 600 363 0 (gm_ent 363 (gm_vr 226 :: [a, b].map gm_vi)) [] 245 (bs_K la K) (bs_R 100003 0) (bs_M la M) (RF (q_streams lw N a b).1 (q_streams lw N a b).2) := rq_streams (by decide) (e0_w hb (Or.inr (Or.inl ⟨rfl, rfl⟩))) (gJ_w hb) (ns6 (bs_F0 (z := 100003) hb) (rfv_w (la := la) hR.2.2.2).1.1.1 hR.1.1.1.1) hR.1.1 (rfv_w hR.2.2.2) ia ib
noncomputable def q_person (lw : Option (List lln)) (N : Int → Int) (a : Int) (b : Int) : Int × Int := tif (¬ (0 ≤ a ∧ a < N 3)) (1, 0) (tif (¬ (0 ≤ b ∧ b ≤ 5)) (2, 0) (tif (b < 3) (0, (N (95 + (a * 3 + b)))) (tif (b = 3) (0, cnt (fun l => (N (119 + (l * 7 + 0))) = a) (N 4).toNat) (tif (b = 4) (0, cnt (fun l => (N (119 + (l * 7 + 5))) = a) (N 4).toNat) (0, cnt (fun l => (N (119 + (l * 7 + 1))) = a ∧ (¬ (N (119 + (l * 7 + 0))) = -1 ∧ (N (119 + (l * 7 + 5))) = -1 ∧ ¬ ao lw N l = -1 ∧ ao lw N l ≤ N 9)) (N 4).toNat)))))
theorem iq_person : gm_ir (q_person lw N a b).1 := by
  unfold q_person
  exact tif_ir (show (-2147483648 : Int) ≤ 1 ∧ (1 : Int) < 2147483648 from by decide) (tif_ir (show (-2147483648 : Int) ≤ 2 ∧ (2 : Int) < 2147483648 from by decide) (tif_ir (show (-2147483648 : Int) ≤ 0 ∧ (0 : Int) < 2147483648 from by decide) (tif_ir (show (-2147483648 : Int) ≤ 0 ∧ (0 : Int) < 2147483648 from by decide) (tif_ir (show (-2147483648 : Int) ≤ 0 ∧ (0 : Int) < 2147483648 from by decide) ((show (-2147483648 : Int) ≤ 0 ∧ (0 : Int) < 2147483648 from by decide))))))
theorem cq_person (hd : 24 ≤ d) (hbc : 4 ≤ bc) (hbs : 24 ≤ bs) (hE : E0 n K R) (hn : 245 ≤ n) (hK : K 245 = (2, 1)) (hc : CC n K R NC C Ln G lw) (hL : LBX NC C Ln lw M) (hG : GJ N) (hV : CLV N lw A im t w f M) (ia : gm_ir a) (ib : gm_ir b) : gm_Wp X LX d bc bs 138 0 (gm_ent 138 [gm_vr 1, gm_vi a, gm_vi b]) [] n K R M (hQ [(3, 1), (4, 2)] (CF (q_person lw N a b).1 (oV (q_person lw N a b).1 (q_person lw N a b).2))) := by
  exact cl_person (o := ao lw N) (dd := adp N (hts (N 13)) (aphi lw N (hts (N 13)))) hd hbc hbs hE hV.1.1 hG.1.1 (flw_a hE hc hG.1.1 hG.1.2.1) (fic_of hL hV) (hb_of hV.2.1) (hk_of hV.2.1) (fun l _ _ => aout_s l) ia ib (fun h h2 h3 M2 => hQ_v hn hK (cf_v hK ((tif_f (fun hh => hh h)).trans ((tif_f (fun hh => hh ⟨by omega, by omega⟩)).trans (tif_t (show b < 3 by omega)))) rfl)) (fun h h2 M2 => hQ_v hn hK (cf_v hK ((tif_f (fun hh => hh h)).trans ((tif_f (fun hh => hh ⟨by omega, by omega⟩)).trans ((tif_f (show ¬ b < 3 by omega)).trans (tif_t h2)))) rfl)) (fun h h2 M2 => hQ_v hn hK (cf_v hK ((tif_f (fun hh => hh h)).trans ((tif_f (fun hh => hh ⟨by omega, by omega⟩)).trans ((tif_f (show ¬ b < 3 by omega)).trans ((tif_f (show ¬ b = 3 by omega)).trans (tif_t h2))))) rfl)) (fun h h2 M2 => hQ_v hn hK (cf_v hK ((tif_f (fun hh => hh h)).trans ((tif_f (fun hh => hh ⟨by omega, by omega⟩)).trans ((tif_f (show ¬ b < 3 by omega)).trans ((tif_f (show ¬ b = 3 by omega)).trans (tif_f (show ¬ b = 4 by omega)))))) rfl)) (fun h => hQ_x hn hK (c := 1) (by decide) (cf_x hK (tif_t h) (by decide))) (fun h h2 => hQ_x hn hK (c := 2) (by decide) (cf_x hK ((tif_f (fun hh => hh h)).trans (tif_t h2)) (by decide)))
theorem rq_person (hd : 24 ≤ d) (hE : E0 n K R) (hT : jT fun j => M 227 (395 + j)) (hS6 : NSb 6 N) (hG : GJ N) (hV : RFV N lw A im t w f M) (ia : gm_ir a) (ib : gm_ir b) : gm_Wp X LX d bc bs 297 0 (gm_ent 297 [gm_vr 226, gm_vi a, gm_vi b]) [] n K R M (RF (q_person lw N a b).1 (q_person lw N a b).2) := by
  have k226 := k226 hE
  exact re_person (o := ao lw N) (dd := adp N (hts (N 13)) (aphi lw N (hts (N 13)))) hd hE hV.1.1 hG.1.1 (flr_a hE (lawg_of hV.1.2.1 hT) hgeo_r hG.1.1 hG.1.1 hS6) ⟨hV.2.1, fun _ _ => rfl⟩ (fun l _ _ => aout_s l) ia ib (fun h h2 h3 M2 h0 => rf_e k226 ((tif_f (fun hh => hh h)).trans ((tif_f (fun hh => hh ⟨by omega, by omega⟩)).trans (tif_t (show b < 3 by omega)))) (fun _ => rfl) h0) (fun h h2 M2 h0 => rf_e k226 ((tif_f (fun hh => hh h)).trans ((tif_f (fun hh => hh ⟨by omega, by omega⟩)).trans ((tif_f (show ¬ b < 3 by omega)).trans (tif_t h2)))) (fun _ => rfl) h0) (fun h h2 M2 h0 => rf_e k226 ((tif_f (fun hh => hh h)).trans ((tif_f (fun hh => hh ⟨by omega, by omega⟩)).trans ((tif_f (show ¬ b < 3 by omega)).trans ((tif_f (show ¬ b = 3 by omega)).trans (tif_t h2))))) (fun _ => rfl) h0) (fun h h2 M2 h0 => rf_e k226 ((tif_f (fun hh => hh h)).trans ((tif_f (fun hh => hh ⟨by omega, by omega⟩)).trans ((tif_f (show ¬ b < 3 by omega)).trans ((tif_f (show ¬ b = 3 by omega)).trans (tif_f (show ¬ b = 4 by omega)))))) (fun _ => rfl) h0) (fun h M2 h0 => rf_e k226 (tif_t h) (fun e => absurd e (by decide)) h0) (fun h h2 M2 h0 => rf_e k226 ((tif_f (fun hh => hh h)).trans (tif_t h2)) (fun e => absurd e (by decide)) h0)
theorem fw_person (hb : bg g la K R M) (hR : REL la K M N lw A im t w f) (ia : gm_ir a) (ib : gm_ir b) : ∀ z g1, bs_ok la z g1 → ¬ z = 100003 → gm_Wp X LX 279 6 600 137 0 (gm_ent 137 (gm_vr 1 :: bc_as [a, b] true)) [] (245 + 4 * g1) (bs_K la K) (bs_R z g1) (bs_M la M) (CF (q_person lw N a b).1 (oV (q_person lw N a b).1 (q_person lw N a b).2)) := by
  intro z g1 hz hz3
  have hE := e0_w hb hz
  obtain ⟨NC, C, Ln, hcc, hlb⟩ := cc_w hb hz hz3 hR.2.1.1 hR.2.2.2.1.2.1
  exact hl_137 (d := 278) (k1_e hE) (cq_person (by decide) (by decide) (by decide) hE (k245 hE).1 (k245 hE).2 hcc hlb hR.1.1 (clv_w hb hR.2.2.1) ia ib)
theorem fm_person (hb : bg g la K R M) (hR : REL la K M N lw A im t w f) (ia : gm_ir a) (ib : gm_ir b) : gm_Wp X LX 279 6 600 297 0 (gm_ent 297 (gm_vr 226 :: [a, b].map gm_vi)) [] 245 (bs_K la K) (bs_R 100003 0) (bs_M la M) (RF (q_person lw N a b).1 (q_person lw N a b).2) := rq_person (by decide) (e0_w hb (Or.inr (Or.inl ⟨rfl, rfl⟩))) (gJ_w hb) (ns6 (bs_F0 (z := 100003) hb) (rfv_w (la := la) hR.2.2.2).1.1.1 hR.1.1.1.1) hR.1.1 (rfv_w hR.2.2.2) ia ib
end LE54B
