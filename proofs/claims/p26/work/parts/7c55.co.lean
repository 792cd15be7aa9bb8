/-! COUNT: what it answers. -/
section CO55
variable {X : Int → Int} {LX d bc bs n : Nat} {K : gm_K} {R : gm_R} {M : gm_M} {Q : gm_Q} {N h : Int → Int} {sp : Int → Int → Int} {FI : gm_M → Prop} {φ : Int → Int → Int → Int} {o dd : Int → Int} {ll cc : Int} {l lane row year y p w x k c v a b t : Int}
theorem hs_69 (hE : E0 n K R) (h42 : M 42 2 = cc) (q0 : Q (.inl (some (gm_vi cc))) n K R (M)) : gm_Wp X LX d bc bs 69 0 (gm_ent 69 [gm_vr 42]) [] n K R M Q := by
  refine gm_sz (gm_p_load (pc := 0) (i := .aload_n 0) (sr := 2) (j := 0) (by decide +kernel) rfl rfl rfl) ?_
  refine gm_sz (fw_gi (pc := 1) (ix := 21) (ci := 3) (j := 2) (x := cc) (by decide +kernel) (e0k hE (k := 42) (c := 3) (by decide +kernel)) (by decide +kernel) (by decide +kernel) h42) ?_
  exact gm_r_int (pc := 4) (by decide +kernel) (Or.inl (by decide +kernel)) q0
theorem cl_count (hd : 24 ≤ d) (hbc : 4 ≤ bc) (hbs : 24 ≤ bs) (hE : E0 n K R) (hT : TI N h sp M) (hN : NR N) (hfw : FLW X LX n K R N h sp FI φ) (hI : FI M) (hb15 : gm_ir (M 1 15)) (hk15 : ¬ M 1 15 = 0 → M 1 15 = 1 ∧ ENDS N h φ M) (hoo : ∀ l, 0 ≤ l → l < N 4 → OUTR N h φ l (o l) (dd l)) (hll : ∀ (d bc bs : Nat) (Q : gm_Q), 4 ≤ d → Q (.inl (some (gm_vi ll))) n K R M → gm_Wp X LX d bc bs 64 0 (gm_ent 64 [gm_vr 1]) [] n K R M Q) (h42 : M 42 2 = cc) (hi : gm_ir w) (kn : 0 ≤ w → w ≤ 13 → ¬ w = 8 → ∀ M2, Q (.inl (some (gm_vi (N w)))) n K R M2) (k8 : w = 8 → ∀ M2, Q (.inl (some (gm_vi (ll)))) n K R M2) (k14 : w = 14 → ∀ M2, Q (.inl (some (gm_vi (N 14)))) n K R M2) (k15 : w = 15 → ∀ M2, Q (.inl (some (gm_vi (cnt (fun l => (¬ (N (119 + (l * 7 + 0))) = -1 ∧ (N (119 + (l * 7 + 5))) = -1 ∧ ¬ o l = -1 ∧ o l ≤ N 9)) (N 4).toNat)))) n K R M2) (k16 : w = 16 → ∀ M2, Q (.inl (some (gm_vi (cnt (fun l => ¬ (¬ o l = -1 ∧ o l ≤ N 9)) (N 4).toNat)))) n K R M2) (k17 : w = 17 → ∀ M2, Q (.inl (some (gm_vi (cc)))) n K R M2) (kx : w < 0 ∨ 17 < w → ∀ M2, Q (.inl (some (gm_vi (-1)))) n K R M2) : gm_Wp X LX d bc bs 63 0 (gm_ent 63 [gm_vr 1, gm_vi w]) [] n K R M Q := by
  obtain ⟨⟨⟨a0, b0⟩, ⟨a1, b1⟩, ⟨a10, b10⟩, ⟨a11, b11⟩, ⟨a12, b12⟩, a9, b9⟩, ⟨⟨a2, b2⟩, ⟨a5, b5⟩, ⟨a3, b3⟩, ⟨a4, b4⟩, ⟨a6, b6⟩, ⟨a14, b14⟩, ⟨a7, b7⟩, a13, b13⟩, rF, rP, rL⟩ := id hN
  have hob : ∀ l, 0 ≤ l → l < N 4 → -1 ≤ o l ∧ o l ≤ 299 := fun l l0 l1 => OUTR_b (hoo l l0 l1) (rL l l0 l1).2.2.2.1.1
  refine gm_sz (gm_p_load (pc := 0) (i := .iload_n 1) (sr := 0) (j := 1) (by decide +kernel) rfl rfl rfl) ?_
  refine gm_b_sw (pc := 1) (df := 241) (lo := 0) (hi := 17) (offs := #[87, 95, 103, 114, 125, 136, 147, 158, 166, 171, 179, 187, 195, 203, 211, 222, 228, 233]) (by decide +kernel) (by decide) (by decide) (fun h1 => ?_) ⟨fun h1 => ?_, fun h1 => ?_, fun h1 => ?_, fun h1 => ?_, fun h1 => ?_, fun h1 => ?_, fun h1 => ?_, fun h1 => ?_, fun h1 => ?_, fun h1 => ?_, fun h1 => ?_, fun h1 => ?_, fun h1 => ?_, fun h1 => ?_, fun h1 => ?_, fun h1 => ?_, fun h1 => ?_, fun h1 => ?_, trivial⟩
  · show gm_Wp X LX d _ _ 63 242 _ [] n K _ _ Q
    have h1 : w < 0 ∨ 17 < w := by rw [(gm_ir_w (x := w) hi)] at h1; exact h1
    refine gm_sz (gm_p_const (pc := 242) (i := .iconst (-1)) (v := gm_vi (-1)) (by decide +kernel) (by decide +kernel)) ?_
    exact gm_r_int (pc := 243) (by decide +kernel) (Or.inl (by decide +kernel)) (kx (by omega) _)
  · show gm_Wp X LX d _ _ 63 88 _ [] n K _ _ Q
    have h1 : w = 0 := (gm_ir_w (x := w) hi).symm.trans h1
    refine gm_sz (gm_p_load (pc := 88) (i := .aload_n 0) (sr := 2) (j := 0) (by decide +kernel) rfl rfl rfl) ?_
    refine gm_sz (fw_gr (pc := 89) (ix := 23) (ci := 0) (j := 3) (r := 3) (by decide +kernel) (e0k hE (k := 1) (c := 0) (by decide +kernel)) (by decide +kernel) (by decide +kernel) (e0r hE (k := 1) (j := 3) (r := 3) (by decide +kernel))) ?_
    refine gm_sz (fw_gi (pc := 92) (ix := 351) (ci := 1) (j := 0) (x := N 0) (by decide +kernel) (e0k hE (k := 3) (c := 1) (by decide +kernel)) (by decide +kernel) (by decide +kernel) (ti_lan hT)) ?_
    rw [show N 0 = N w from congrArg N (show (0 : Int) = w by omega)]
    exact gm_r_int (pc := 95) (by decide +kernel) (Or.inl (by decide +kernel)) (kn (by omega) (by omega) (by omega) _)
  · show gm_Wp X LX d _ _ 63 96 _ [] n K _ _ Q
    have h1 : w = 1 := (gm_ir_w (x := w) hi).symm.trans h1
    refine gm_sz (gm_p_load (pc := 96) (i := .aload_n 0) (sr := 2) (j := 0) (by decide +kernel) rfl rfl rfl) ?_
    refine gm_sz (fw_gr (pc := 97) (ix := 23) (ci := 0) (j := 3) (r := 3) (by decide +kernel) (e0k hE (k := 1) (c := 0) (by decide +kernel)) (by decide +kernel) (by decide +kernel) (e0r hE (k := 1) (j := 3) (r := 3) (by decide +kernel))) ?_
    refine gm_sz (fw_gi (pc := 100) (ix := 226) (ci := 1) (j := 1) (x := N 1) (by decide +kernel) (e0k hE (k := 3) (c := 1) (by decide +kernel)) (by decide +kernel) (by decide +kernel) (ti_las hT)) ?_
    rw [show N 1 = N w from congrArg N (show (1 : Int) = w by omega)]
    exact gm_r_int (pc := 103) (by decide +kernel) (Or.inl (by decide +kernel)) (kn (by omega) (by omega) (by omega) _)
  · show gm_Wp X LX d _ _ 63 104 _ [] n K _ _ Q
    have h1 : w = 2 := (gm_ir_w (x := w) hi).symm.trans h1
    refine gm_sz (gm_p_load (pc := 104) (i := .aload_n 0) (sr := 2) (j := 0) (by decide +kernel) rfl rfl rfl) ?_
    refine gm_sz (fw_gr (pc := 105) (ix := 23) (ci := 0) (j := 3) (r := 3) (by decide +kernel) (e0k hE (k := 1) (c := 0) (by decide +kernel)) (by decide +kernel) (by decide +kernel) (e0r hE (k := 1) (j := 3) (r := 3) (by decide +kernel))) ?_
    refine gm_sz (fw_gr (pc := 108) (ix := 423) (ci := 1) (j := 9) (r := 4) (by decide +kernel) (e0k hE (k := 3) (c := 1) (by decide +kernel)) (by decide +kernel) (by decide +kernel) (e0r hE (k := 3) (j := 9) (r := 4) (by decide +kernel))) ?_
    refine gm_c_virt (k := 4) (ci := 2) (mj := 9) (ix := 277) (pc := 111) (as := []) (st := []) (d' := d - 1) (bc' := 0) (bs' := 0) (by decide +kernel) (by decide +kernel) (by decide +kernel) (by decide +kernel) (e0k hE (k := 4) (c := 2) (by decide +kernel)).1 (e0k hE (k := 4) (c := 2) (by decide +kernel)).2 (by decide) (by decide +kernel) (show 0 = gm_na 9 by decide +kernel) fw_c0 (show 1 ≤ gm_ml 9 by decide +kernel) (Nat.le_of_ble_eq_true rfl) (by omega) (Nat.zero_le _) (Nat.zero_le _) ?_
    refine rw_size (s := N 2) (e0k hE (k := 4) (c := 2) (by decide +kernel)) (ti_sec hT) ?_
    show gm_Wp X LX d _ _ 63 114 _ [gm_vi (N 2)] n K _ _ Q
    rw [show N 2 = N w from congrArg N (show (2 : Int) = w by omega)]
    exact gm_r_int (pc := 114) (by decide +kernel) (Or.inl (by decide +kernel)) (kn (by omega) (by omega) (by omega) _)
  · show gm_Wp X LX d _ _ 63 115 _ [] n K _ _ Q
    have h1 : w = 3 := (gm_ir_w (x := w) hi).symm.trans h1
    refine gm_sz (gm_p_load (pc := 115) (i := .aload_n 0) (sr := 2) (j := 0) (by decide +kernel) rfl rfl rfl) ?_
    refine gm_sz (fw_gr (pc := 116) (ix := 23) (ci := 0) (j := 3) (r := 3) (by decide +kernel) (e0k hE (k := 1) (c := 0) (by decide +kernel)) (by decide +kernel) (by decide +kernel) (e0r hE (k := 1) (j := 3) (r := 3) (by decide +kernel))) ?_
    refine gm_sz (fw_gr (pc := 119) (ix := 183) (ci := 1) (j := 11) (r := 8) (by decide +kernel) (e0k hE (k := 3) (c := 1) (by decide +kernel)) (by decide +kernel) (by decide +kernel) (e0r hE (k := 3) (j := 11) (r := 8) (by decide +kernel))) ?_
    refine gm_c_virt (k := 8) (ci := 2) (mj := 9) (ix := 277) (pc := 122) (as := []) (st := []) (d' := d - 1) (bc' := 0) (bs' := 0) (by decide +kernel) (by decide +kernel) (by decide +kernel) (by decide +kernel) (e0k hE (k := 8) (c := 2) (by decide +kernel)).1 (e0k hE (k := 8) (c := 2) (by decide +kernel)).2 (by decide) (by decide +kernel) (show 0 = gm_na 9 by decide +kernel) fw_c0 (show 1 ≤ gm_ml 9 by decide +kernel) (Nat.le_of_ble_eq_true rfl) (by omega) (Nat.zero_le _) (Nat.zero_le _) ?_
    refine rw_size (s := N 3) (e0k hE (k := 8) (c := 2) (by decide +kernel)) (ti_peo hT) ?_
    show gm_Wp X LX d _ _ 63 125 _ [gm_vi (N 3)] n K _ _ Q
    rw [show N 3 = N w from congrArg N (show (3 : Int) = w by omega)]
    exact gm_r_int (pc := 125) (by decide +kernel) (Or.inl (by decide +kernel)) (kn (by omega) (by omega) (by omega) _)
  · show gm_Wp X LX d _ _ 63 126 _ [] n K _ _ Q
    have h1 : w = 4 := (gm_ir_w (x := w) hi).symm.trans h1
    refine gm_sz (gm_p_load (pc := 126) (i := .aload_n 0) (sr := 2) (j := 0) (by decide +kernel) rfl rfl rfl) ?_
    refine gm_sz (fw_gr (pc := 127) (ix := 23) (ci := 0) (j := 3) (r := 3) (by decide +kernel) (e0k hE (k := 1) (c := 0) (by decide +kernel)) (by decide +kernel) (by decide +kernel) (e0r hE (k := 1) (j := 3) (r := 3) (by decide +kernel))) ?_
    refine gm_sz (fw_gr (pc := 130) (ix := 203) (ci := 1) (j := 12) (r := 10) (by decide +kernel) (e0k hE (k := 3) (c := 1) (by decide +kernel)) (by decide +kernel) (by decide +kernel) (e0r hE (k := 3) (j := 12) (r := 10) (by decide +kernel))) ?_
    refine gm_c_virt (k := 10) (ci := 2) (mj := 9) (ix := 277) (pc := 133) (as := []) (st := []) (d' := d - 1) (bc' := 0) (bs' := 0) (by decide +kernel) (by decide +kernel) (by decide +kernel) (by decide +kernel) (e0k hE (k := 10) (c := 2) (by decide +kernel)).1 (e0k hE (k := 10) (c := 2) (by decide +kernel)).2 (by decide) (by decide +kernel) (show 0 = gm_na 9 by decide +kernel) fw_c0 (show 1 ≤ gm_ml 9 by decide +kernel) (Nat.le_of_ble_eq_true rfl) (by omega) (Nat.zero_le _) (Nat.zero_le _) ?_
    refine rw_size (s := N 4) (e0k hE (k := 10) (c := 2) (by decide +kernel)) (ti_let hT) ?_
    show gm_Wp X LX d _ _ 63 136 _ [gm_vi (N 4)] n K _ _ Q
    rw [show N 4 = N w from congrArg N (show (4 : Int) = w by omega)]
    exact gm_r_int (pc := 136) (by decide +kernel) (Or.inl (by decide +kernel)) (kn (by omega) (by omega) (by omega) _)
  · show gm_Wp X LX d _ _ 63 137 _ [] n K _ _ Q
    have h1 : w = 5 := (gm_ir_w (x := w) hi).symm.trans h1
    refine gm_sz (gm_p_load (pc := 137) (i := .aload_n 0) (sr := 2) (j := 0) (by decide +kernel) rfl rfl rfl) ?_
    refine gm_sz (fw_gr (pc := 138) (ix := 23) (ci := 0) (j := 3) (r := 3) (by decide +kernel) (e0k hE (k := 1) (c := 0) (by decide +kernel)) (by decide +kernel) (by decide +kernel) (e0r hE (k := 1) (j := 3) (r := 3) (by decide +kernel))) ?_
    refine gm_sz (fw_gr (pc := 141) (ix := 303) (ci := 1) (j := 10) (r := 6) (by decide +kernel) (e0k hE (k := 3) (c := 1) (by decide +kernel)) (by decide +kernel) (by decide +kernel) (e0r hE (k := 3) (j := 10) (r := 6) (by decide +kernel))) ?_
    refine gm_c_virt (k := 6) (ci := 2) (mj := 9) (ix := 277) (pc := 144) (as := []) (st := []) (d' := d - 1) (bc' := 0) (bs' := 0) (by decide +kernel) (by decide +kernel) (by decide +kernel) (by decide +kernel) (e0k hE (k := 6) (c := 2) (by decide +kernel)).1 (e0k hE (k := 6) (c := 2) (by decide +kernel)).2 (by decide) (by decide +kernel) (show 0 = gm_na 9 by decide +kernel) fw_c0 (show 1 ≤ gm_ml 9 by decide +kernel) (Nat.le_of_ble_eq_true rfl) (by omega) (Nat.zero_le _) (Nat.zero_le _) ?_
    refine rw_size (s := N 5) (e0k hE (k := 6) (c := 2) (by decide +kernel)) (ti_flo hT) ?_
    show gm_Wp X LX d _ _ 63 147 _ [gm_vi (N 5)] n K _ _ Q
    rw [show N 5 = N w from congrArg N (show (5 : Int) = w by omega)]
    exact gm_r_int (pc := 147) (by decide +kernel) (Or.inl (by decide +kernel)) (kn (by omega) (by omega) (by omega) _)
  · show gm_Wp X LX d _ _ 63 148 _ [] n K _ _ Q
    have h1 : w = 6 := (gm_ir_w (x := w) hi).symm.trans h1
    refine gm_sz (gm_p_load (pc := 148) (i := .aload_n 0) (sr := 2) (j := 0) (by decide +kernel) rfl rfl rfl) ?_
    refine gm_sz (fw_gr (pc := 149) (ix := 23) (ci := 0) (j := 3) (r := 3) (by decide +kernel) (e0k hE (k := 1) (c := 0) (by decide +kernel)) (by decide +kernel) (by decide +kernel) (e0r hE (k := 1) (j := 3) (r := 3) (by decide +kernel))) ?_
    refine gm_sz (fw_gr (pc := 152) (ix := 344) (ci := 1) (j := 13) (r := 12) (by decide +kernel) (e0k hE (k := 3) (c := 1) (by decide +kernel)) (by decide +kernel) (by decide +kernel) (e0r hE (k := 3) (j := 13) (r := 12) (by decide +kernel))) ?_
    refine gm_c_virt (k := 12) (ci := 2) (mj := 9) (ix := 277) (pc := 155) (as := []) (st := []) (d' := d - 1) (bc' := 0) (bs' := 0) (by decide +kernel) (by decide +kernel) (by decide +kernel) (by decide +kernel) (e0k hE (k := 12) (c := 2) (by decide +kernel)).1 (e0k hE (k := 12) (c := 2) (by decide +kernel)).2 (by decide) (by decide +kernel) (show 0 = gm_na 9 by decide +kernel) fw_c0 (show 1 ≤ gm_ml 9 by decide +kernel) (Nat.le_of_ble_eq_true rfl) (by omega) (Nat.zero_le _) (Nat.zero_le _) ?_
    refine rw_size (s := N 6) (e0k hE (k := 12) (c := 2) (by decide +kernel)) (ti_tab hT) ?_
    show gm_Wp X LX d _ _ 63 158 _ [gm_vi (N 6)] n K _ _ Q
    rw [show N 6 = N w from congrArg N (show (6 : Int) = w by omega)]
    exact gm_r_int (pc := 158) (by decide +kernel) (Or.inl (by decide +kernel)) (kn (by omega) (by omega) (by omega) _)
  · show gm_Wp X LX d _ _ 63 159 _ [] n K _ _ Q
    have h1 : w = 7 := (gm_ir_w (x := w) hi).symm.trans h1
    refine gm_sz (gm_p_load (pc := 159) (i := .aload_n 0) (sr := 2) (j := 0) (by decide +kernel) rfl rfl rfl) ?_
    refine gm_sz (fw_gr (pc := 160) (ix := 23) (ci := 0) (j := 3) (r := 3) (by decide +kernel) (e0k hE (k := 1) (c := 0) (by decide +kernel)) (by decide +kernel) (by decide +kernel) (e0r hE (k := 1) (j := 3) (r := 3) (by decide +kernel))) ?_
    refine gm_sz (fw_gi (pc := 163) (ix := 128) (ci := 1) (j := 7) (x := N 7) (by decide +kernel) (e0k hE (k := 3) (c := 1) (by decide +kernel)) (by decide +kernel) (by decide +kernel) (ti_txs hT)) ?_
    rw [show N 7 = N w from congrArg N (show (7 : Int) = w by omega)]
    exact gm_r_int (pc := 166) (by decide +kernel) (Or.inl (by decide +kernel)) (kn (by omega) (by omega) (by omega) _)
  · show gm_Wp X LX d _ _ 63 167 _ [] n K _ _ Q
    have h1 : w = 8 := (gm_ir_w (x := w) hi).symm.trans h1
    refine gm_sz (gm_p_load (pc := 167) (i := .aload_n 0) (sr := 2) (j := 0) (by decide +kernel) rfl rfl rfl) ?_
    refine gm_c_virt (k := 1) (ci := 0) (mj := 64) (ix := 150) (pc := 168) (as := []) (st := []) (d' := d - 1) (bc' := 0) (bs' := 0) (by decide +kernel) (by decide +kernel) (by decide +kernel) (by decide +kernel) (e0k hE (k := 1) (c := 0) (by decide +kernel)).1 (e0k hE (k := 1) (c := 0) (by decide +kernel)).2 (by decide) (by decide +kernel) (show 0 = gm_na 64 by decide +kernel) fw_c0 (show 1 ≤ gm_ml 64 by decide +kernel) (Nat.le_of_ble_eq_true rfl) (by omega) (Nat.zero_le _) (Nat.zero_le _) ?_
    refine hll _ _ _ _ (by omega) ?_
    show gm_Wp X LX d _ _ 63 171 _ [gm_vi ll] n K _ _ Q
    exact gm_r_int (pc := 171) (by decide +kernel) (Or.inl (by decide +kernel)) (k8 (by omega) _)
  · show gm_Wp X LX d _ _ 63 172 _ [] n K _ _ Q
    have h1 : w = 9 := (gm_ir_w (x := w) hi).symm.trans h1
    refine gm_sz (gm_p_load (pc := 172) (i := .aload_n 0) (sr := 2) (j := 0) (by decide +kernel) rfl rfl rfl) ?_
    refine gm_sz (fw_gr (pc := 173) (ix := 23) (ci := 0) (j := 3) (r := 3) (by decide +kernel) (e0k hE (k := 1) (c := 0) (by decide +kernel)) (by decide +kernel) (by decide +kernel) (e0r hE (k := 1) (j := 3) (r := 3) (by decide +kernel))) ?_
    refine gm_sz (fw_gi (pc := 176) (ix := 269) (ci := 1) (j := 6) (x := N 9) (by decide +kernel) (e0k hE (k := 3) (c := 1) (by decide +kernel)) (by decide +kernel) (by decide +kernel) (ti_now hT)) ?_
    rw [show N 9 = N w from congrArg N (show (9 : Int) = w by omega)]
    exact gm_r_int (pc := 179) (by decide +kernel) (Or.inl (by decide +kernel)) (kn (by omega) (by omega) (by omega) _)
  · show gm_Wp X LX d _ _ 63 180 _ [] n K _ _ Q
    have h1 : w = 10 := (gm_ir_w (x := w) hi).symm.trans h1
    refine gm_sz (gm_p_load (pc := 180) (i := .aload_n 0) (sr := 2) (j := 0) (by decide +kernel) rfl rfl rfl) ?_
    refine gm_sz (fw_gr (pc := 181) (ix := 23) (ci := 0) (j := 3) (r := 3) (by decide +kernel) (e0k hE (k := 1) (c := 0) (by decide +kernel)) (by decide +kernel) (by decide +kernel) (e0r hE (k := 1) (j := 3) (r := 3) (by decide +kernel))) ?_
    refine gm_sz (fw_gi (pc := 184) (ix := 426) (ci := 1) (j := 2) (x := N 10) (by decide +kernel) (e0k hE (k := 3) (c := 1) (by decide +kernel)) (by decide +kernel) (by decide +kernel) (ti_sno hT)) ?_
    rw [show N 10 = N w from congrArg N (show (10 : Int) = w by omega)]
    exact gm_r_int (pc := 187) (by decide +kernel) (Or.inl (by decide +kernel)) (kn (by omega) (by omega) (by omega) _)
  · show gm_Wp X LX d _ _ 63 188 _ [] n K _ _ Q
    have h1 : w = 11 := (gm_ir_w (x := w) hi).symm.trans h1
    refine gm_sz (gm_p_load (pc := 188) (i := .aload_n 0) (sr := 2) (j := 0) (by decide +kernel) rfl rfl rfl) ?_
    refine gm_sz (fw_gr (pc := 189) (ix := 23) (ci := 0) (j := 3) (r := 3) (by decide +kernel) (e0k hE (k := 1) (c := 0) (by decide +kernel)) (by decide +kernel) (by decide +kernel) (e0r hE (k := 1) (j := 3) (r := 3) (by decide +kernel))) ?_
    refine gm_sz (fw_gi (pc := 192) (ix := 429) (ci := 1) (j := 3) (x := N 11) (by decide +kernel) (e0k hE (k := 3) (c := 1) (by decide +kernel)) (by decide +kernel) (by decide +kernel) (ti_fal hT)) ?_
    rw [show N 11 = N w from congrArg N (show (11 : Int) = w by omega)]
    exact gm_r_int (pc := 195) (by decide +kernel) (Or.inl (by decide +kernel)) (kn (by omega) (by omega) (by omega) _)
  · show gm_Wp X LX d _ _ 63 196 _ [] n K _ _ Q
    have h1 : w = 12 := (gm_ir_w (x := w) hi).symm.trans h1
    refine gm_sz (gm_p_load (pc := 196) (i := .aload_n 0) (sr := 2) (j := 0) (by decide +kernel) rfl rfl rfl) ?_
    refine gm_sz (fw_gr (pc := 197) (ix := 23) (ci := 0) (j := 3) (r := 3) (by decide +kernel) (e0k hE (k := 1) (c := 0) (by decide +kernel)) (by decide +kernel) (by decide +kernel) (e0r hE (k := 1) (j := 3) (r := 3) (by decide +kernel))) ?_
    refine gm_sz (fw_gi (pc := 200) (ix := 405) (ci := 1) (j := 4) (x := N 12) (by decide +kernel) (e0k hE (k := 3) (c := 1) (by decide +kernel)) (by decide +kernel) (by decide +kernel) (ti_str hT)) ?_
    rw [show N 12 = N w from congrArg N (show (12 : Int) = w by omega)]
    exact gm_r_int (pc := 203) (by decide +kernel) (Or.inl (by decide +kernel)) (kn (by omega) (by omega) (by omega) _)
  · show gm_Wp X LX d _ _ 63 204 _ [] n K _ _ Q
    have h1 : w = 13 := (gm_ir_w (x := w) hi).symm.trans h1
    refine gm_sz (gm_p_load (pc := 204) (i := .aload_n 0) (sr := 2) (j := 0) (by decide +kernel) rfl rfl rfl) ?_
    refine gm_sz (fw_gr (pc := 205) (ix := 23) (ci := 0) (j := 3) (r := 3) (by decide +kernel) (e0k hE (k := 1) (c := 0) (by decide +kernel)) (by decide +kernel) (by decide +kernel) (e0r hE (k := 1) (j := 3) (r := 3) (by decide +kernel))) ?_
    refine gm_sz (fw_gi (pc := 208) (ix := 432) (ci := 1) (j := 5) (x := N 13) (by decide +kernel) (e0k hE (k := 3) (c := 1) (by decide +kernel)) (by decide +kernel) (by decide +kernel) (ti_see hT)) ?_
    rw [show N 13 = N w from congrArg N (show (13 : Int) = w by omega)]
    exact gm_r_int (pc := 211) (by decide +kernel) (Or.inl (by decide +kernel)) (kn (by omega) (by omega) (by omega) _)
  · show gm_Wp X LX d _ _ 63 212 _ [] n K _ _ Q
    have h1 : w = 14 := (gm_ir_w (x := w) hi).symm.trans h1
    refine gm_sz (gm_p_load (pc := 212) (i := .aload_n 0) (sr := 2) (j := 0) (by decide +kernel) rfl rfl rfl) ?_
    refine gm_sz (fw_gr (pc := 213) (ix := 23) (ci := 0) (j := 3) (r := 3) (by decide +kernel) (e0k hE (k := 1) (c := 0) (by decide +kernel)) (by decide +kernel) (by decide +kernel) (e0r hE (k := 1) (j := 3) (r := 3) (by decide +kernel))) ?_
    refine gm_sz (fw_gr (pc := 216) (ix := 416) (ci := 1) (j := 14) (r := 14) (by decide +kernel) (e0k hE (k := 3) (c := 1) (by decide +kernel)) (by decide +kernel) (by decide +kernel) (e0r hE (k := 3) (j := 14) (r := 14) (by decide +kernel))) ?_
    refine gm_c_virt (k := 14) (ci := 2) (mj := 9) (ix := 277) (pc := 219) (as := []) (st := []) (d' := d - 1) (bc' := 0) (bs' := 0) (by decide +kernel) (by decide +kernel) (by decide +kernel) (by decide +kernel) (e0k hE (k := 14) (c := 2) (by decide +kernel)).1 (e0k hE (k := 14) (c := 2) (by decide +kernel)).2 (by decide) (by decide +kernel) (show 0 = gm_na 9 by decide +kernel) fw_c0 (show 1 ≤ gm_ml 9 by decide +kernel) (Nat.le_of_ble_eq_true rfl) (by omega) (Nat.zero_le _) (Nat.zero_le _) ?_
    refine rw_size (s := N 14) (e0k hE (k := 14) (c := 2) (by decide +kernel)) (ti_ope hT) ?_
    show gm_Wp X LX d _ _ 63 222 _ [gm_vi (N 14)] n K _ _ Q
    exact gm_r_int (pc := 222) (by decide +kernel) (Or.inl (by decide +kernel)) (k14 (by omega) _)
  · show gm_Wp X LX d _ _ 63 223 _ [] n K _ _ Q
    have h1 : w = 15 := (gm_ir_w (x := w) hi).symm.trans h1
    refine gm_sz (gm_p_load (pc := 223) (i := .aload_n 0) (sr := 2) (j := 0) (by decide +kernel) rfl rfl rfl) ?_
    refine gm_sz (gm_p_const (pc := 224) (i := .iconst (-1)) (v := gm_vi (-1)) (by decide +kernel) (by decide +kernel)) ?_
    refine gm_c_virt (k := 1) (ci := 0) (mj := 65) (ix := 192) (pc := 225) (as := [gm_vi (-1)]) (st := []) (d' := d - 1) (bc' := 0) (bs' := 0) (by decide +kernel) (by decide +kernel) (by decide +kernel) (by decide +kernel) (e0k hE (k := 1) (c := 0) (by decide +kernel)).1 (e0k hE (k := 1) (c := 0) (by decide +kernel)).2 (by decide) (by decide +kernel) (show 1 = gm_na 65 by decide +kernel) (fw_c1 fw_si) (show 2 ≤ gm_ml 65 by decide +kernel) (Nat.le_of_ble_eq_true rfl) (by omega) (Nat.zero_le _) (Nat.zero_le _) ?_
    refine wa_65 (c := (-1 : Int)) (o := o) (dd := dd) (by omega) hE hT hN hfw hI hb15 hk15 hoo ⟨by decide, by decide⟩ (fun M65 => ?_)
    show gm_Wp X LX d _ _ 63 228 _ [gm_vi (cnt (fun l => ((-1 : Int) = -1 ∨ (N (119 + (l * 7 + 1))) = (-1 : Int)) ∧ (¬ (N (119 + (l * 7 + 0))) = -1 ∧ (N (119 + (l * 7 + 5))) = -1 ∧ ¬ o l = -1 ∧ o l ≤ N 9)) (N 4).toNat)] n K _ _ Q
    rw [cnt_cg (p := (fun l => ((-1 : Int) = -1 ∨ (N (119 + (l * 7 + 1))) = (-1 : Int)) ∧ (¬ (N (119 + (l * 7 + 0))) = -1 ∧ (N (119 + (l * 7 + 5))) = -1 ∧ ¬ o l = -1 ∧ o l ≤ N 9))) (q := (fun l => (¬ (N (119 + (l * 7 + 0))) = -1 ∧ (N (119 + (l * 7 + 5))) = -1 ∧ ¬ o l = -1 ∧ o l ≤ N 9))) (N 4).toNat (fun i _ => ⟨fun hh => hh.2, fun hh => ⟨Or.inl rfl, hh⟩⟩)]
    exact gm_r_int (pc := 228) (by decide +kernel) (Or.inl (by decide +kernel)) (k15 (by omega) _)
  · show gm_Wp X LX d _ _ 63 229 _ [] n K _ _ Q
    have h1 : w = 16 := (gm_ir_w (x := w) hi).symm.trans h1
    refine gm_sz (gm_p_load (pc := 229) (i := .aload_n 0) (sr := 2) (j := 0) (by decide +kernel) rfl rfl rfl) ?_
    refine gm_c_virt (k := 1) (ci := 0) (mj := 68) (ix := 435) (pc := 230) (as := []) (st := []) (d' := d - 1) (bc' := 0) (bs' := 0) (by decide +kernel) (by decide +kernel) (by decide +kernel) (by decide +kernel) (e0k hE (k := 1) (c := 0) (by decide +kernel)).1 (e0k hE (k := 1) (c := 0) (by decide +kernel)).2 (by decide) (by decide +kernel) (show 0 = gm_na 68 by decide +kernel) fw_c0 (show 1 ≤ gm_ml 68 by decide +kernel) (Nat.le_of_ble_eq_true rfl) (by omega) (Nat.zero_le _) (Nat.zero_le _) ?_
    refine ii_68 (o := o) (dd := dd) (by omega) hE hT hN hfw hI hb15 hk15 hoo (fun M65 => ?_)
    show gm_Wp X LX d _ _ 63 233 _ [gm_vi (cnt (fun l => ¬ (¬ o l = -1 ∧ o l ≤ N 9)) (N 4).toNat)] n K _ _ Q
    exact gm_r_int (pc := 233) (by decide +kernel) (Or.inl (by decide +kernel)) (k16 (by omega) _)
  · show gm_Wp X LX d _ _ 63 234 _ [] n K _ _ Q
    have h1 : w = 17 := (gm_ir_w (x := w) hi).symm.trans h1
    refine gm_sz (gm_p_load (pc := 234) (i := .aload_n 0) (sr := 2) (j := 0) (by decide +kernel) rfl rfl rfl) ?_
    refine gm_sz (fw_gr (pc := 235) (ix := 40) (ci := 0) (j := 7) (r := 42) (by decide +kernel) (e0k hE (k := 1) (c := 0) (by decide +kernel)) (by decide +kernel) (by decide +kernel) (e0r hE (k := 1) (j := 7) (r := 42) (by decide +kernel))) ?_
    refine gm_c_virt (k := 42) (ci := 3) (mj := 69) (ix := 438) (pc := 238) (as := []) (st := []) (d' := d - 1) (bc' := 0) (bs' := 0) (by decide +kernel) (by decide +kernel) (by decide +kernel) (by decide +kernel) (e0k hE (k := 42) (c := 3) (by decide +kernel)).1 (e0k hE (k := 42) (c := 3) (by decide +kernel)).2 (by decide) (by decide +kernel) (show 0 = gm_na 69 by decide +kernel) fw_c0 (show 1 ≤ gm_ml 69 by decide +kernel) (Nat.le_of_ble_eq_true rfl) (by omega) (Nat.zero_le _) (Nat.zero_le _) ?_
    refine hs_69 hE h42 ?_
    show gm_Wp X LX d _ _ 63 241 _ [gm_vi cc] n K _ _ Q
    exact gm_r_int (pc := 241) (by decide +kernel) (Or.inl (by decide +kernel)) (k17 (by omega) _)
theorem re_count (hd : 24 ≤ d) (hE : E0 n K R) (hT : TR N h M) (hN : NR N) (hfw : FLR X LX n K R N h FI φ) (hI : FI M) (hoo : ∀ l, 0 ≤ l → l < N 4 → OUTR N h φ l (o l) (dd l)) (hlaw8 : (M 227 8 = 1 ∧ M 227 395 = ll) ∨ (M 227 8 = 0 ∧ ll = -1)) (hrem6 : M 226 6 = cc) (hi : gm_ir w) (kn : 0 ≤ w → w ≤ 13 → ¬ w = 8 → ∀ M2, M2 226 0 = 0 → Q (.inl (some (gm_vi (N w)))) n K R M2) (k8 : w = 8 → ∀ M2, M2 226 0 = 0 → Q (.inl (some (gm_vi (ll)))) n K R M2) (k14 : w = 14 → ∀ M2, M2 226 0 = 0 → Q (.inl (some (gm_vi (N 14)))) n K R M2) (k15 : w = 15 → ∀ M2, M2 226 0 = 0 → Q (.inl (some (gm_vi (cnt (fun l => (¬ (N (119 + (l * 7 + 0))) = -1 ∧ (N (119 + (l * 7 + 5))) = -1 ∧ ¬ o l = -1 ∧ o l ≤ N 9)) (N 4).toNat)))) n K R M2) (k16 : w = 16 → ∀ M2, M2 226 0 = 0 → Q (.inl (some (gm_vi (cnt (fun l => ¬ (¬ o l = -1 ∧ o l ≤ N 9)) (N 4).toNat)))) n K R M2) (k17 : w = 17 → ∀ M2, M2 226 0 = 0 → Q (.inl (some (gm_vi (cc)))) n K R M2) (kx : w < 0 ∨ 17 < w → ∀ M2, M2 226 0 = 0 → Q (.inl (some (gm_vi (-1)))) n K R M2) : gm_Wp X LX d bc bs 368 0 (gm_ent 368 [gm_vr 226, gm_vi w]) [] n K R M Q := by
  obtain ⟨⟨⟨a0, b0⟩, ⟨a1, b1⟩, ⟨a10, b10⟩, ⟨a11, b11⟩, ⟨a12, b12⟩, a9, b9⟩, ⟨⟨a2, b2⟩, ⟨a5, b5⟩, ⟨a3, b3⟩, ⟨a4, b4⟩, ⟨a6, b6⟩, ⟨a14, b14⟩, ⟨a7, b7⟩, a13, b13⟩, rF, rP, rL⟩ := id hN
  have hob : ∀ l, 0 ≤ l → l < N 4 → -1 ≤ o l ∧ o l ≤ 299 := fun l l0 l1 => OUTR_b (hoo l l0 l1) (rL l l0 l1).2.2.2.1.1
  refine gm_sz (gm_p_load (pc := 0) (i := .aload_n 0) (sr := 2) (j := 0) (by decide +kernel) rfl rfl rfl) ?_
  refine gm_sz (gm_p_const (pc := 1) (i := .iconst 0) (v := gm_vi 0) (by decide +kernel) (by decide +kernel)) ?_
  refine gm_sz (fw_pi (pc := 2) (ix := 3) (ci := 11) (j := 0) (M' := gm_uM M 226 0 0) (by decide +kernel) (e0k hE (k := 226) (c := 11) (by decide +kernel)) (by decide +kernel) (by decide +kernel) (by decide +kernel) rfl) ?_
  refine gm_sz (gm_p_const (pc := 5) (i := .iconst 0) (v := gm_vi 0) (by decide +kernel) (by decide +kernel)) ?_
  refine gm_sz (gm_p_stor (pc := 6) (i := .istore_n 2) (sr := 0) (j := 2) (by decide +kernel) rfl (show 3 ≤ _ from Nat.le_of_ble_eq_true rfl) rfl) ?_
  refine gm_sz (gm_p_load (pc := 7) (i := .iload_n 1) (sr := 0) (j := 1) (by decide +kernel) rfl rfl rfl) ?_
  refine gm_b_sw (pc := 8) (df := 174) (lo := 8) (hi := 17) (offs := #[56, 174, 174, 174, 174, 174, 80, 88, 122, 169]) (by decide +kernel) (by decide) (by decide) (fun h8 => ?_) ⟨fun h8 => ?_, fun h8 => ?_, fun h8 => ?_, fun h8 => ?_, fun h8 => ?_, fun h8 => ?_, fun h8 => ?_, fun h8 => ?_, fun h8 => ?_, fun h8 => ?_, trivial⟩
  · show gm_Wp X LX d _ _ 368 182 _ [] n K _ _ Q
    have h8 : w < 8 ∨ 17 < w := by rw [(gm_ir_w (x := w) hi)] at h8; exact h8
    refine gm_sz (gm_p_load (pc := 182) (i := .iload_n 1) (sr := 0) (j := 1) (by decide +kernel) rfl rfl rfl) ?_
    refine gm_sz (gm_p_const (pc := 183) (i := .iconst 0) (v := gm_vi 0) (by decide +kernel) (by decide +kernel)) ?_
    refine gm_sz (gm_p_const (pc := 184) (i := .bipush 13) (v := gm_vi 13) (by decide +kernel) (by decide +kernel)) ?_
    refine gm_c_stat (mj := 286) (ix := 90) (pc := 186) (as := [gm_vi w, gm_vi 0, gm_vi 13]) (st := []) (d' := d - 1) (bc' := 0) (bs' := 0) (by decide +kernel) (by decide +kernel) (by decide +kernel) (by decide +kernel) (show 3 = gm_na 286 by decide +kernel) (fw_c3 fw_si fw_si fw_si) (show 3 ≤ gm_ml 286 by decide +kernel) (Nat.le_of_ble_eq_true rfl) (by omega) (Nat.zero_le _) (Nat.zero_le _) ?_
    refine in_286 (x := w) (y := 0) (z := 13) hi ⟨by decide, by decide⟩ ⟨by decide, by decide⟩ (fun k186a k186 => ?_) (fun k186 => ?_)
    · show gm_Wp X LX d _ _ 368 189 _ [gm_vi 1] n K _ _ Q
      have k186a : 0 ≤ w := k186a
      have k186 : w ≤ 13 := k186
      refine fw_iffd (cc := .eq) (pc := 189) (off := 12) (by decide +kernel) (by decide) ⟨by decide, by decide⟩ (by decide) ?_
      refine gm_sz (gm_p_load (pc := 192) (i := .aload_n 0) (sr := 2) (j := 0) (by decide +kernel) rfl rfl rfl) ?_
      refine gm_sz (fw_gr (pc := 193) (ix := 13) (ci := 11) (j := 1) (r := 227) (by decide +kernel) (e0k hE (k := 226) (c := 11) (by decide +kernel)) (by decide +kernel) (by decide +kernel) (e0r hE (k := 226) (j := 1) (r := 227) (by decide +kernel))) ?_
      refine gm_sz (gm_p_load (pc := 196) (i := .iload_n 1) (sr := 0) (j := 1) (by decide +kernel) rfl rfl rfl) ?_
      refine gm_sz (fw_ia (pc := 197) (k := 227) (len := 2093) (e0 := w) (x := N w) (by decide +kernel) (e0a hE (k := 227) (q := (0, 2093)) (by decide +kernel)).1 (e0a hE (k := 227) (q := (0, 2093)) (by decide +kernel)).2 (by decide) ⟨by omega, by omega⟩ ((uM_ne (by omega)).trans (tr_w hT (by omega) (by omega) (by omega)))) ?_
      refine gm_sz (gm_p_goto (pc := 198) (off := 4) (by decide +kernel) (by decide)) ?_
      exact gm_r_int (pc := 202) (by decide +kernel) (Or.inl (by decide +kernel)) (kn (by omega) (by omega) (by omega) _ uM_at)
    · show gm_Wp X LX d _ _ 368 189 _ [gm_vi 0] n K _ _ Q
      have k186 : ¬ (0 ≤ w ∧ w ≤ 13) := k186
      refine fw_iftd (cc := .eq) (pc := 189) (off := 12) (by decide +kernel) (by decide) ⟨by decide, by decide⟩ (by decide) ?_
      refine gm_sz (gm_p_const (pc := 201) (i := .iconst (-1)) (v := gm_vi (-1)) (by decide +kernel) (by decide +kernel)) ?_
      exact gm_r_int (pc := 202) (by decide +kernel) (Or.inl (by decide +kernel)) (kx (by omega) _ uM_at)
  · show gm_Wp X LX d _ _ 368 64 _ [] n K _ _ Q
    have h8 : w = 8 := (gm_ir_w (x := w) hi).symm.trans h8
    refine gm_sz (gm_p_load (pc := 64) (i := .aload_n 0) (sr := 2) (j := 0) (by decide +kernel) rfl rfl rfl) ?_
    refine gm_sz (fw_gr (pc := 65) (ix := 13) (ci := 11) (j := 1) (r := 227) (by decide +kernel) (e0k hE (k := 226) (c := 11) (by decide +kernel)) (by decide +kernel) (by decide +kernel) (e0r hE (k := 226) (j := 1) (r := 227) (by decide +kernel))) ?_
    refine gm_sz (gm_p_const (pc := 68) (i := .bipush 8) (v := gm_vi 8) (by decide +kernel) (by decide +kernel)) ?_
    refine gm_sz (fw_ia (pc := 70) (k := 227) (len := 2093) (e0 := 8) (x := (M 227 8)) (by decide +kernel) (e0a hE (k := 227) (q := (0, 2093)) (by decide +kernel)).1 (e0a hE (k := 227) (q := (0, 2093)) (by decide +kernel)).2 (by decide) ⟨by omega, by omega⟩ ((uM_ne (by omega)).trans rfl)) ?_
    refine gm_sz (gm_p_const (pc := 71) (i := .iconst 1) (v := gm_vi 1) (by decide +kernel) (by decide +kernel)) ?_
    refine fw_ic (cc := .ne) (pc := 72) (off := 14) (by decide +kernel) (by decide) ⟨by omega, by omega⟩ ⟨by decide, by decide⟩ (fun h72 => ?_) (fun h72 => ?_)
    · have h72 : ¬ (M 227 8) = 1 := h72
      refine gm_sz (gm_p_const (pc := 86) (i := .iconst (-1)) (v := gm_vi (-1)) (by decide +kernel) (by decide +kernel)) ?_
      rw [show (-1 : Int) = ll by omega]
      exact gm_r_int (pc := 87) (by decide +kernel) (Or.inl (by decide +kernel)) (k8 (by omega) _ uM_at)
    · have h72 : (M 227 8) = 1 := Classical.not_not.mp h72
      refine gm_sz (gm_p_load (pc := 75) (i := .aload_n 0) (sr := 2) (j := 0) (by decide +kernel) rfl rfl rfl) ?_
      refine gm_sz (fw_gr (pc := 76) (ix := 13) (ci := 11) (j := 1) (r := 227) (by decide +kernel) (e0k hE (k := 226) (c := 11) (by decide +kernel)) (by decide +kernel) (by decide +kernel) (e0r hE (k := 226) (j := 1) (r := 227) (by decide +kernel))) ?_
      refine gm_sz (gm_p_const (pc := 79) (i := .sipush 395) (v := gm_vi 395) (by decide +kernel) (by decide +kernel)) ?_
      refine gm_sz (fw_ia (pc := 82) (k := 227) (len := 2093) (e0 := 395) (x := M 227 395) (by decide +kernel) (e0a hE (k := 227) (q := (0, 2093)) (by decide +kernel)).1 (e0a hE (k := 227) (q := (0, 2093)) (by decide +kernel)).2 (by decide) ⟨by omega, by omega⟩ ((uM_ne (by omega)).trans rfl)) ?_
      refine gm_sz (gm_p_goto (pc := 83) (off := 4) (by decide +kernel) (by decide)) ?_
      rw [show M 227 395 = ll by omega]
      exact gm_r_int (pc := 87) (by decide +kernel) (Or.inl (by decide +kernel)) (k8 (by omega) _ uM_at)
  · show gm_Wp X LX d _ _ 368 182 _ [] n K _ _ Q
    have h8 : w = 9 := (gm_ir_w (x := w) hi).symm.trans h8
    refine gm_sz (gm_p_load (pc := 182) (i := .iload_n 1) (sr := 0) (j := 1) (by decide +kernel) rfl rfl rfl) ?_
    refine gm_sz (gm_p_const (pc := 183) (i := .iconst 0) (v := gm_vi 0) (by decide +kernel) (by decide +kernel)) ?_
    refine gm_sz (gm_p_const (pc := 184) (i := .bipush 13) (v := gm_vi 13) (by decide +kernel) (by decide +kernel)) ?_
    refine gm_c_stat (mj := 286) (ix := 90) (pc := 186) (as := [gm_vi w, gm_vi 0, gm_vi 13]) (st := []) (d' := d - 1) (bc' := 0) (bs' := 0) (by decide +kernel) (by decide +kernel) (by decide +kernel) (by decide +kernel) (show 3 = gm_na 286 by decide +kernel) (fw_c3 fw_si fw_si fw_si) (show 3 ≤ gm_ml 286 by decide +kernel) (Nat.le_of_ble_eq_true rfl) (by omega) (Nat.zero_le _) (Nat.zero_le _) ?_
    refine in_286 (x := w) (y := 0) (z := 13) hi ⟨by decide, by decide⟩ ⟨by decide, by decide⟩ (fun k186a k186 => ?_) (fun k186 => ?_)
    · show gm_Wp X LX d _ _ 368 189 _ [gm_vi 1] n K _ _ Q
      have k186a : 0 ≤ w := k186a
      have k186 : w ≤ 13 := k186
      refine fw_iffd (cc := .eq) (pc := 189) (off := 12) (by decide +kernel) (by decide) ⟨by decide, by decide⟩ (by decide) ?_
      refine gm_sz (gm_p_load (pc := 192) (i := .aload_n 0) (sr := 2) (j := 0) (by decide +kernel) rfl rfl rfl) ?_
      refine gm_sz (fw_gr (pc := 193) (ix := 13) (ci := 11) (j := 1) (r := 227) (by decide +kernel) (e0k hE (k := 226) (c := 11) (by decide +kernel)) (by decide +kernel) (by decide +kernel) (e0r hE (k := 226) (j := 1) (r := 227) (by decide +kernel))) ?_
      refine gm_sz (gm_p_load (pc := 196) (i := .iload_n 1) (sr := 0) (j := 1) (by decide +kernel) rfl rfl rfl) ?_
      refine gm_sz (fw_ia (pc := 197) (k := 227) (len := 2093) (e0 := w) (x := N w) (by decide +kernel) (e0a hE (k := 227) (q := (0, 2093)) (by decide +kernel)).1 (e0a hE (k := 227) (q := (0, 2093)) (by decide +kernel)).2 (by decide) ⟨by omega, by omega⟩ ((uM_ne (by omega)).trans (tr_w hT (by omega) (by omega) (by omega)))) ?_
      refine gm_sz (gm_p_goto (pc := 198) (off := 4) (by decide +kernel) (by decide)) ?_
      exact gm_r_int (pc := 202) (by decide +kernel) (Or.inl (by decide +kernel)) (kn (by omega) (by omega) (by omega) _ uM_at)
    · show gm_Wp X LX d _ _ 368 189 _ [gm_vi 0] n K _ _ Q
      have k186 : ¬ (0 ≤ w ∧ w ≤ 13) := k186
      refine fw_iftd (cc := .eq) (pc := 189) (off := 12) (by decide +kernel) (by decide) ⟨by decide, by decide⟩ (by decide) ?_
      refine gm_sz (gm_p_const (pc := 201) (i := .iconst (-1)) (v := gm_vi (-1)) (by decide +kernel) (by decide +kernel)) ?_
      exact gm_r_int (pc := 202) (by decide +kernel) (Or.inl (by decide +kernel)) (kx (by omega) _ uM_at)
  · show gm_Wp X LX d _ _ 368 182 _ [] n K _ _ Q
    have h8 : w = 10 := (gm_ir_w (x := w) hi).symm.trans h8
    refine gm_sz (gm_p_load (pc := 182) (i := .iload_n 1) (sr := 0) (j := 1) (by decide +kernel) rfl rfl rfl) ?_
    refine gm_sz (gm_p_const (pc := 183) (i := .iconst 0) (v := gm_vi 0) (by decide +kernel) (by decide +kernel)) ?_
    refine gm_sz (gm_p_const (pc := 184) (i := .bipush 13) (v := gm_vi 13) (by decide +kernel) (by decide +kernel)) ?_
    refine gm_c_stat (mj := 286) (ix := 90) (pc := 186) (as := [gm_vi w, gm_vi 0, gm_vi 13]) (st := []) (d' := d - 1) (bc' := 0) (bs' := 0) (by decide +kernel) (by decide +kernel) (by decide +kernel) (by decide +kernel) (show 3 = gm_na 286 by decide +kernel) (fw_c3 fw_si fw_si fw_si) (show 3 ≤ gm_ml 286 by decide +kernel) (Nat.le_of_ble_eq_true rfl) (by omega) (Nat.zero_le _) (Nat.zero_le _) ?_
    refine in_286 (x := w) (y := 0) (z := 13) hi ⟨by decide, by decide⟩ ⟨by decide, by decide⟩ (fun k186a k186 => ?_) (fun k186 => ?_)
    · show gm_Wp X LX d _ _ 368 189 _ [gm_vi 1] n K _ _ Q
      have k186a : 0 ≤ w := k186a
      have k186 : w ≤ 13 := k186
      refine fw_iffd (cc := .eq) (pc := 189) (off := 12) (by decide +kernel) (by decide) ⟨by decide, by decide⟩ (by decide) ?_
      refine gm_sz (gm_p_load (pc := 192) (i := .aload_n 0) (sr := 2) (j := 0) (by decide +kernel) rfl rfl rfl) ?_
      refine gm_sz (fw_gr (pc := 193) (ix := 13) (ci := 11) (j := 1) (r := 227) (by decide +kernel) (e0k hE (k := 226) (c := 11) (by decide +kernel)) (by decide +kernel) (by decide +kernel) (e0r hE (k := 226) (j := 1) (r := 227) (by decide +kernel))) ?_
      refine gm_sz (gm_p_load (pc := 196) (i := .iload_n 1) (sr := 0) (j := 1) (by decide +kernel) rfl rfl rfl) ?_
      refine gm_sz (fw_ia (pc := 197) (k := 227) (len := 2093) (e0 := w) (x := N w) (by decide +kernel) (e0a hE (k := 227) (q := (0, 2093)) (by decide +kernel)).1 (e0a hE (k := 227) (q := (0, 2093)) (by decide +kernel)).2 (by decide) ⟨by omega, by omega⟩ ((uM_ne (by omega)).trans (tr_w hT (by omega) (by omega) (by omega)))) ?_
      refine gm_sz (gm_p_goto (pc := 198) (off := 4) (by decide +kernel) (by decide)) ?_
      exact gm_r_int (pc := 202) (by decide +kernel) (Or.inl (by decide +kernel)) (kn (by omega) (by omega) (by omega) _ uM_at)
    · show gm_Wp X LX d _ _ 368 189 _ [gm_vi 0] n K _ _ Q
      have k186 : ¬ (0 ≤ w ∧ w ≤ 13) := k186
      refine fw_iftd (cc := .eq) (pc := 189) (off := 12) (by decide +kernel) (by decide) ⟨by decide, by decide⟩ (by decide) ?_
      refine gm_sz (gm_p_const (pc := 201) (i := .iconst (-1)) (v := gm_vi (-1)) (by decide +kernel) (by decide +kernel)) ?_
      exact gm_r_int (pc := 202) (by decide +kernel) (Or.inl (by decide +kernel)) (kx (by omega) _ uM_at)
  · show gm_Wp X LX d _ _ 368 182 _ [] n K _ _ Q
    have h8 : w = 11 := (gm_ir_w (x := w) hi).symm.trans h8
    refine gm_sz (gm_p_load (pc := 182) (i := .iload_n 1) (sr := 0) (j := 1) (by decide +kernel) rfl rfl rfl) ?_
    refine gm_sz (gm_p_const (pc := 183) (i := .iconst 0) (v := gm_vi 0) (by decide +kernel) (by decide +kernel)) ?_
    refine gm_sz (gm_p_const (pc := 184) (i := .bipush 13) (v := gm_vi 13) (by decide +kernel) (by decide +kernel)) ?_
    refine gm_c_stat (mj := 286) (ix := 90) (pc := 186) (as := [gm_vi w, gm_vi 0, gm_vi 13]) (st := []) (d' := d - 1) (bc' := 0) (bs' := 0) (by decide +kernel) (by decide +kernel) (by decide +kernel) (by decide +kernel) (show 3 = gm_na 286 by decide +kernel) (fw_c3 fw_si fw_si fw_si) (show 3 ≤ gm_ml 286 by decide +kernel) (Nat.le_of_ble_eq_true rfl) (by omega) (Nat.zero_le _) (Nat.zero_le _) ?_
    refine in_286 (x := w) (y := 0) (z := 13) hi ⟨by decide, by decide⟩ ⟨by decide, by decide⟩ (fun k186a k186 => ?_) (fun k186 => ?_)
    · show gm_Wp X LX d _ _ 368 189 _ [gm_vi 1] n K _ _ Q
      have k186a : 0 ≤ w := k186a
      have k186 : w ≤ 13 := k186
      refine fw_iffd (cc := .eq) (pc := 189) (off := 12) (by decide +kernel) (by decide) ⟨by decide, by decide⟩ (by decide) ?_
      refine gm_sz (gm_p_load (pc := 192) (i := .aload_n 0) (sr := 2) (j := 0) (by decide +kernel) rfl rfl rfl) ?_
      refine gm_sz (fw_gr (pc := 193) (ix := 13) (ci := 11) (j := 1) (r := 227) (by decide +kernel) (e0k hE (k := 226) (c := 11) (by decide +kernel)) (by decide +kernel) (by decide +kernel) (e0r hE (k := 226) (j := 1) (r := 227) (by decide +kernel))) ?_
      refine gm_sz (gm_p_load (pc := 196) (i := .iload_n 1) (sr := 0) (j := 1) (by decide +kernel) rfl rfl rfl) ?_
      refine gm_sz (fw_ia (pc := 197) (k := 227) (len := 2093) (e0 := w) (x := N w) (by decide +kernel) (e0a hE (k := 227) (q := (0, 2093)) (by decide +kernel)).1 (e0a hE (k := 227) (q := (0, 2093)) (by decide +kernel)).2 (by decide) ⟨by omega, by omega⟩ ((uM_ne (by omega)).trans (tr_w hT (by omega) (by omega) (by omega)))) ?_
      refine gm_sz (gm_p_goto (pc := 198) (off := 4) (by decide +kernel) (by decide)) ?_
      exact gm_r_int (pc := 202) (by decide +kernel) (Or.inl (by decide +kernel)) (kn (by omega) (by omega) (by omega) _ uM_at)
    · show gm_Wp X LX d _ _ 368 189 _ [gm_vi 0] n K _ _ Q
      have k186 : ¬ (0 ≤ w ∧ w ≤ 13) := k186
      refine fw_iftd (cc := .eq) (pc := 189) (off := 12) (by decide +kernel) (by decide) ⟨by decide, by decide⟩ (by decide) ?_
      refine gm_sz (gm_p_const (pc := 201) (i := .iconst (-1)) (v := gm_vi (-1)) (by decide +kernel) (by decide +kernel)) ?_
      exact gm_r_int (pc := 202) (by decide +kernel) (Or.inl (by decide +kernel)) (kx (by omega) _ uM_at)
  · show gm_Wp X LX d _ _ 368 182 _ [] n K _ _ Q
    have h8 : w = 12 := (gm_ir_w (x := w) hi).symm.trans h8
    refine gm_sz (gm_p_load (pc := 182) (i := .iload_n 1) (sr := 0) (j := 1) (by decide +kernel) rfl rfl rfl) ?_
    refine gm_sz (gm_p_const (pc := 183) (i := .iconst 0) (v := gm_vi 0) (by decide +kernel) (by decide +kernel)) ?_
    refine gm_sz (gm_p_const (pc := 184) (i := .bipush 13) (v := gm_vi 13) (by decide +kernel) (by decide +kernel)) ?_
    refine gm_c_stat (mj := 286) (ix := 90) (pc := 186) (as := [gm_vi w, gm_vi 0, gm_vi 13]) (st := []) (d' := d - 1) (bc' := 0) (bs' := 0) (by decide +kernel) (by decide +kernel) (by decide +kernel) (by decide +kernel) (show 3 = gm_na 286 by decide +kernel) (fw_c3 fw_si fw_si fw_si) (show 3 ≤ gm_ml 286 by decide +kernel) (Nat.le_of_ble_eq_true rfl) (by omega) (Nat.zero_le _) (Nat.zero_le _) ?_
    refine in_286 (x := w) (y := 0) (z := 13) hi ⟨by decide, by decide⟩ ⟨by decide, by decide⟩ (fun k186a k186 => ?_) (fun k186 => ?_)
    · show gm_Wp X LX d _ _ 368 189 _ [gm_vi 1] n K _ _ Q
      have k186a : 0 ≤ w := k186a
      have k186 : w ≤ 13 := k186
      refine fw_iffd (cc := .eq) (pc := 189) (off := 12) (by decide +kernel) (by decide) ⟨by decide, by decide⟩ (by decide) ?_
      refine gm_sz (gm_p_load (pc := 192) (i := .aload_n 0) (sr := 2) (j := 0) (by decide +kernel) rfl rfl rfl) ?_
      refine gm_sz (fw_gr (pc := 193) (ix := 13) (ci := 11) (j := 1) (r := 227) (by decide +kernel) (e0k hE (k := 226) (c := 11) (by decide +kernel)) (by decide +kernel) (by decide +kernel) (e0r hE (k := 226) (j := 1) (r := 227) (by decide +kernel))) ?_
      refine gm_sz (gm_p_load (pc := 196) (i := .iload_n 1) (sr := 0) (j := 1) (by decide +kernel) rfl rfl rfl) ?_
      refine gm_sz (fw_ia (pc := 197) (k := 227) (len := 2093) (e0 := w) (x := N w) (by decide +kernel) (e0a hE (k := 227) (q := (0, 2093)) (by decide +kernel)).1 (e0a hE (k := 227) (q := (0, 2093)) (by decide +kernel)).2 (by decide) ⟨by omega, by omega⟩ ((uM_ne (by omega)).trans (tr_w hT (by omega) (by omega) (by omega)))) ?_
      refine gm_sz (gm_p_goto (pc := 198) (off := 4) (by decide +kernel) (by decide)) ?_
      exact gm_r_int (pc := 202) (by decide +kernel) (Or.inl (by decide +kernel)) (kn (by omega) (by omega) (by omega) _ uM_at)
    · show gm_Wp X LX d _ _ 368 189 _ [gm_vi 0] n K _ _ Q
      have k186 : ¬ (0 ≤ w ∧ w ≤ 13) := k186
      refine fw_iftd (cc := .eq) (pc := 189) (off := 12) (by decide +kernel) (by decide) ⟨by decide, by decide⟩ (by decide) ?_
      refine gm_sz (gm_p_const (pc := 201) (i := .iconst (-1)) (v := gm_vi (-1)) (by decide +kernel) (by decide +kernel)) ?_
      exact gm_r_int (pc := 202) (by decide +kernel) (Or.inl (by decide +kernel)) (kx (by omega) _ uM_at)
  · show gm_Wp X LX d _ _ 368 182 _ [] n K _ _ Q
    have h8 : w = 13 := (gm_ir_w (x := w) hi).symm.trans h8
    refine gm_sz (gm_p_load (pc := 182) (i := .iload_n 1) (sr := 0) (j := 1) (by decide +kernel) rfl rfl rfl) ?_
    refine gm_sz (gm_p_const (pc := 183) (i := .iconst 0) (v := gm_vi 0) (by decide +kernel) (by decide +kernel)) ?_
    refine gm_sz (gm_p_const (pc := 184) (i := .bipush 13) (v := gm_vi 13) (by decide +kernel) (by decide +kernel)) ?_
    refine gm_c_stat (mj := 286) (ix := 90) (pc := 186) (as := [gm_vi w, gm_vi 0, gm_vi 13]) (st := []) (d' := d - 1) (bc' := 0) (bs' := 0) (by decide +kernel) (by decide +kernel) (by decide +kernel) (by decide +kernel) (show 3 = gm_na 286 by decide +kernel) (fw_c3 fw_si fw_si fw_si) (show 3 ≤ gm_ml 286 by decide +kernel) (Nat.le_of_ble_eq_true rfl) (by omega) (Nat.zero_le _) (Nat.zero_le _) ?_
    refine in_286 (x := w) (y := 0) (z := 13) hi ⟨by decide, by decide⟩ ⟨by decide, by decide⟩ (fun k186a k186 => ?_) (fun k186 => ?_)
    · show gm_Wp X LX d _ _ 368 189 _ [gm_vi 1] n K _ _ Q
      have k186a : 0 ≤ w := k186a
      have k186 : w ≤ 13 := k186
      refine fw_iffd (cc := .eq) (pc := 189) (off := 12) (by decide +kernel) (by decide) ⟨by decide, by decide⟩ (by decide) ?_
      refine gm_sz (gm_p_load (pc := 192) (i := .aload_n 0) (sr := 2) (j := 0) (by decide +kernel) rfl rfl rfl) ?_
      refine gm_sz (fw_gr (pc := 193) (ix := 13) (ci := 11) (j := 1) (r := 227) (by decide +kernel) (e0k hE (k := 226) (c := 11) (by decide +kernel)) (by decide +kernel) (by decide +kernel) (e0r hE (k := 226) (j := 1) (r := 227) (by decide +kernel))) ?_
      refine gm_sz (gm_p_load (pc := 196) (i := .iload_n 1) (sr := 0) (j := 1) (by decide +kernel) rfl rfl rfl) ?_
      refine gm_sz (fw_ia (pc := 197) (k := 227) (len := 2093) (e0 := w) (x := N w) (by decide +kernel) (e0a hE (k := 227) (q := (0, 2093)) (by decide +kernel)).1 (e0a hE (k := 227) (q := (0, 2093)) (by decide +kernel)).2 (by decide) ⟨by omega, by omega⟩ ((uM_ne (by omega)).trans (tr_w hT (by omega) (by omega) (by omega)))) ?_
      refine gm_sz (gm_p_goto (pc := 198) (off := 4) (by decide +kernel) (by decide)) ?_
      exact gm_r_int (pc := 202) (by decide +kernel) (Or.inl (by decide +kernel)) (kn (by omega) (by omega) (by omega) _ uM_at)
    · show gm_Wp X LX d _ _ 368 189 _ [gm_vi 0] n K _ _ Q
      have k186 : ¬ (0 ≤ w ∧ w ≤ 13) := k186
      refine fw_iftd (cc := .eq) (pc := 189) (off := 12) (by decide +kernel) (by decide) ⟨by decide, by decide⟩ (by decide) ?_
      refine gm_sz (gm_p_const (pc := 201) (i := .iconst (-1)) (v := gm_vi (-1)) (by decide +kernel) (by decide +kernel)) ?_
      exact gm_r_int (pc := 202) (by decide +kernel) (Or.inl (by decide +kernel)) (kx (by omega) _ uM_at)
  · show gm_Wp X LX d _ _ 368 88 _ [] n K _ _ Q
    have h8 : w = 14 := (gm_ir_w (x := w) hi).symm.trans h8
    refine gm_sz (gm_p_load (pc := 88) (i := .aload_n 0) (sr := 2) (j := 0) (by decide +kernel) rfl rfl rfl) ?_
    refine gm_sz (fw_gr (pc := 89) (ix := 13) (ci := 11) (j := 1) (r := 227) (by decide +kernel) (e0k hE (k := 226) (c := 11) (by decide +kernel)) (by decide +kernel) (by decide +kernel) (e0r hE (k := 226) (j := 1) (r := 227) (by decide +kernel))) ?_
    refine gm_sz (gm_p_const (pc := 92) (i := .bipush 14) (v := gm_vi 14) (by decide +kernel) (by decide +kernel)) ?_
    refine gm_sz (fw_ia (pc := 94) (k := 227) (len := 2093) (e0 := 14) (x := N 14) (by decide +kernel) (e0a hE (k := 227) (q := (0, 2093)) (by decide +kernel)).1 (e0a hE (k := 227) (q := (0, 2093)) (by decide +kernel)).2 (by decide) ⟨by omega, by omega⟩ ((uM_ne (by omega)).trans (tr_w hT (by decide) (by decide) (by decide)))) ?_
    exact gm_r_int (pc := 95) (by decide +kernel) (Or.inl (by decide +kernel)) (k14 (by omega) _ uM_at)
  · show gm_Wp X LX d _ _ 368 96 _ [] n K _ _ Q
    have h8 : w = 15 := (gm_ir_w (x := w) hi).symm.trans h8
    refine gm_sz (gm_p_const (pc := 96) (i := .iconst 0) (v := gm_vi 0) (by decide +kernel) (by decide +kernel)) ?_
    refine gm_sz (gm_p_stor (pc := 97) (i := .istore_n 3) (sr := 0) (j := 3) (by decide +kernel) rfl (show 4 ≤ _ from Nat.le_of_ble_eq_true rfl) rfl) ?_
    have e15 : w = 15 := by omega
    subst e15
    exact wa_r (by omega) hE (tr_fr (W := [(226, some 0)]) hT (fr_p fr_0 (Or.inr (by decide))) (by decide)) hN hfw (hfw.2.1 [(226, some 0)] _ _ (by decide) (fr_p fr_0 (Or.inr (by decide))) hI) hoo uM_at hob (k15 rfl) (N 4).toNat 0 _ _ (by omega) fr_0 (hfw.2.1 [(226, some 0)] _ _ (by decide) (fr_p fr_0 (Or.inr (by decide))) hI)
  · show gm_Wp X LX d _ _ 368 130 _ [] n K _ _ Q
    have h8 : w = 16 := (gm_ir_w (x := w) hi).symm.trans h8
    refine gm_sz (gm_p_const (pc := 130) (i := .iconst 0) (v := gm_vi 0) (by decide +kernel) (by decide +kernel)) ?_
    refine gm_sz (gm_p_stor (pc := 131) (i := .istore_n 3) (sr := 0) (j := 3) (by decide +kernel) rfl (show 4 ≤ _ from Nat.le_of_ble_eq_true rfl) rfl) ?_
    have e16 : w = 16 := by omega
    subst e16
    exact ii_r (by omega) hE (tr_fr (W := [(226, some 0)]) hT (fr_p fr_0 (Or.inr (by decide))) (by decide)) hN hfw (hfw.2.1 [(226, some 0)] _ _ (by decide) (fr_p fr_0 (Or.inr (by decide))) hI) hoo uM_at hob (k16 rfl) (N 4).toNat 0 _ _ (by omega) fr_0 (hfw.2.1 [(226, some 0)] _ _ (by decide) (fr_p fr_0 (Or.inr (by decide))) hI)
  · show gm_Wp X LX d _ _ 368 177 _ [] n K _ _ Q
    have h8 : w = 17 := (gm_ir_w (x := w) hi).symm.trans h8
    refine gm_sz (gm_p_load (pc := 177) (i := .aload_n 0) (sr := 2) (j := 0) (by decide +kernel) rfl rfl rfl) ?_
    refine gm_sz (fw_gi (pc := 178) (ix := 79) (ci := 11) (j := 6) (x := cc) (by decide +kernel) (e0k hE (k := 226) (c := 11) (by decide +kernel)) (by decide +kernel) (by decide +kernel) ((uM_ne (by omega)).trans hrem6)) ?_
    exact gm_r_int (pc := 181) (by decide +kernel) (Or.inl (by decide +kernel)) (k17 (by omega) _ uM_at)
end CO55
section CO55B
variable {X : Int → Int} {LX d bc bs n g z g1 : Nat} {la : Nat → Nat} {K : gm_K} {R : gm_R} {M : gm_M} {N : Int → Int} {lw : Option (List lln)} {A : List (Int → Int)} {im : Option ((Int → Int) × Option (List lln))} {t w : Int} {f : Int → Int} {a b c e : Int} {Q : gm_Q} {NC : Nat} {C Ln G : Int → Int}
def lln9 (lw : Option (List lln)) : Int := match lw with | none => -1 | some ls => (ls.length : Int)
/-- how many lines the law has: the class -/
theorem ll_64 (hE : E0 n K R) (hc : CC n K R NC C Ln G lw) (hL : LBX NC C Ln lw M) (hd : 4 ≤ d) (hq : Q (.inl (some (gm_vi (lln9 lw)))) n K R M) : gm_Wp X LX d bc bs 64 0 (gm_ent 64 [gm_vr 1]) [] n K R M Q := by
  cases lw with
  | none =>
    have h8 := hc.1 rfl
    refine gm_sz (gm_p_load (pc := 0) (i := .aload_n 0) (sr := 2) (j := 0) (by decide +kernel) rfl rfl rfl) ?_
    refine gm_sz (fw_gr (pc := 1) (ix := 23) (ci := 0) (j := 3) (r := 3) (by decide +kernel) (e0k hE (k := 1) (c := 0) (by decide +kernel)) (by decide +kernel) (by decide +kernel) (e0r hE (k := 1) (j := 3) (r := 3) (by decide +kernel))) ?_
    refine gm_sz (fw_gr (pc := 4) (ix := 146) (ci := 1) (j := 8) (r := 0) (by decide +kernel) (e0k hE (k := 3) (c := 1) (by decide +kernel)) (by decide +kernel) (by decide +kernel) h8) ?_
    refine gm_b_nnul (pc := 7) (off := 7) (k0 := 0) (by decide) (by decide +kernel) (by decide) (fun h => absurd rfl h) (fun _ => ?_)
    refine gm_sz (gm_p_const (pc := 10) (i := .iconst (-1)) (v := gm_vi (-1)) (by decide +kernel) (by decide +kernel)) ?_
    refine gm_sz (gm_p_goto (pc := 11) (off := 16) (by decide +kernel) (by decide)) ?_
    exact gm_r_int (pc := 27) (by decide +kernel) (Or.inl (by decide +kernel)) hq
  | some ls =>
    obtain ⟨h8, ⟨⟨k6, -, k8, -⟩, ⟨r0, -, -⟩, -⟩, -⟩ := hc.2 ls rfl
    have hm := (hL ls rfl).2.2.2
    refine gm_sz (gm_p_load (pc := 0) (i := .aload_n 0) (sr := 2) (j := 0) (by decide +kernel) rfl rfl rfl) ?_
    refine gm_sz (fw_gr (pc := 1) (ix := 23) (ci := 0) (j := 3) (r := 3) (by decide +kernel) (e0k hE (k := 1) (c := 0) (by decide +kernel)) (by decide +kernel) (by decide +kernel) (e0r hE (k := 1) (j := 3) (r := 3) (by decide +kernel))) ?_
    refine gm_sz (fw_gr (pc := 4) (ix := 146) (ci := 1) (j := 8) (r := 246) (by decide +kernel) (e0k hE (k := 3) (c := 1) (by decide +kernel)) (by decide +kernel) (by decide +kernel) h8) ?_
    refine gm_b_nnul (pc := 7) (off := 7) (k0 := 246) (by decide) (by decide +kernel) (by decide) (fun _ => ?_) (fun h => absurd h (by decide))
    refine gm_sz (gm_p_load (pc := 14) (i := .aload_n 0) (sr := 2) (j := 0) (by decide +kernel) rfl rfl rfl) ?_
    refine gm_sz (fw_gr (pc := 15) (ix := 23) (ci := 0) (j := 3) (r := 3) (by decide +kernel) (e0k hE (k := 1) (c := 0) (by decide +kernel)) (by decide +kernel) (by decide +kernel) (e0r hE (k := 1) (j := 3) (r := 3) (by decide +kernel))) ?_
    refine gm_sz (fw_gr (pc := 18) (ix := 146) (ci := 1) (j := 8) (r := 246) (by decide +kernel) (e0k hE (k := 3) (c := 1) (by decide +kernel)) (by decide +kernel) (by decide +kernel) h8) ?_
    refine gm_sz (fw_gr (pc := 21) (ix := 439) (ci := 10) (j := 0) (r := 248) (by decide +kernel) k6 (by decide +kernel) (by decide +kernel) r0) ?_
    refine gm_c_virt (k := 248) (ci := 2) (mj := 9) (ix := 277) (pc := 24) (as := []) (st := []) (d' := d - 1) (bc' := 0) (bs' := 0) (by decide +kernel) (by decide +kernel) (by decide +kernel) (by decide +kernel) k8.1 k8.2 (by decide) (by decide +kernel) (show 0 = gm_na 9 by decide +kernel) fw_c0 (show 1 ≤ gm_ml 9 by decide +kernel) (Nat.le_of_ble_eq_true rfl) (by omega) (Nat.zero_le _) (Nat.zero_le _) ?_
    refine rw_size (s := (ls.length : Int)) k8 hm ?_
    show gm_Wp X LX d _ _ 64 27 _ [gm_vi (ls.length : Int)] n K _ _ Q
    exact gm_r_int (pc := 27) (by decide +kernel) (Or.inl (by decide +kernel)) hq
theorem lr_89 {W : Int → Int} (h : LAWR lw W) : (W 8 = 1 ∧ W 395 = lln9 lw) ∨ (W 8 = 0 ∧ lln9 lw = -1) := by
  cases lw with
  | none => exact Or.inr ⟨h.1 rfl, rfl⟩
  | some ls => exact Or.inl (h.2 ls rfl).1
noncomputable def q_count (lw : Option (List lln)) (N : Int → Int) (A : List (Int → Int)) (a : Int) : Int × Int := tif (a = 8) (0, lln9 lw) (tif (a = 14) (0, N 14) (tif (a = 15) (0, cnt (fun l => (¬ (N (119 + (l * 7 + 0))) = -1 ∧ (N (119 + (l * 7 + 5))) = -1 ∧ ¬ ao lw N l = -1 ∧ ao lw N l ≤ N 9)) (N 4).toNat) (tif (a = 16) (0, cnt (fun l => ¬ (¬ ao lw N l = -1 ∧ ao lw N l ≤ N 9)) (N 4).toNat) (tif (a = 17) (0, (A.length : Int)) (tif (0 ≤ a ∧ a ≤ 13) (0, N a) (0, -1))))))
theorem iq_count : gm_ir (q_count lw N A a).1 := by
  unfold q_count
  exact tif_ir (show (-2147483648 : Int) ≤ 0 ∧ (0 : Int) < 2147483648 from by decide) (tif_ir (show (-2147483648 : Int) ≤ 0 ∧ (0 : Int) < 2147483648 from by decide) (tif_ir (show (-2147483648 : Int) ≤ 0 ∧ (0 : Int) < 2147483648 from by decide) (tif_ir (show (-2147483648 : Int) ≤ 0 ∧ (0 : Int) < 2147483648 from by decide) (tif_ir (show (-2147483648 : Int) ≤ 0 ∧ (0 : Int) < 2147483648 from by decide) (tif_ir (show (-2147483648 : Int) ≤ 0 ∧ (0 : Int) < 2147483648 from by decide) ((show (-2147483648 : Int) ≤ 0 ∧ (0 : Int) < 2147483648 from by decide)))))))
theorem z_count : (q_count lw N A a).1 = 0 := by
  unfold q_count
  exact (tif_0 rfl (tif_0 rfl (tif_0 rfl (tif_0 rfl (tif_0 rfl (tif_0 rfl rfl))))))
theorem cq_count (hd : 24 ≤ d) (hbc : 4 ≤ bc) (hbs : 24 ≤ bs) (hE : E0 n K R) (hK : K 245 = (2, 1)) (hc : CC n K R NC C Ln G lw) (hL : LBX NC C Ln lw M) (hG : GJ N) (hV : CLV N lw A im t w f M) (ia : gm_ir a) : gm_Wp X LX d bc bs 63 0 (gm_ent 63 [gm_vr 1, gm_vi a]) [] n K R M (CF (q_count lw N A a).2 none) := by
  obtain ⟨nx, -, -, h42, -⟩ := hV.1.2
  exact cl_count (o := ao lw N) (dd := adp N (hts (N 13)) (aphi lw N (hts (N 13)))) hd hbc hbs hE hV.1.1 hG.1.1 (flw_a hE hc hG.1.1 hG.1.2.1) (fic_of hL hV) (hb_of hV.2.1) (hk_of hV.2.1) (fun l _ _ => aout_s l) (fun d bc bs Q hd hq => ll_64 hE hc hL hd hq) h42 ia (fun h h2 h3 M2 => ⟨hK, by rw [show q_count lw N A a = (0, _) from (tif_f (show ¬ a = 8 by omega)).trans ((tif_f (show ¬ a = 14 by omega)).trans ((tif_f (show ¬ a = 15 by omega)).trans ((tif_f (show ¬ a = 16 by omega)).trans ((tif_f (show ¬ a = 17 by omega)).trans (tif_t ⟨by omega, by omega⟩)))))], fun v e => nomatch e⟩) (fun h M2 => ⟨hK, by rw [show q_count lw N A a = (0, _) from tif_t h], fun v e => nomatch e⟩) (fun h M2 => ⟨hK, by rw [show q_count lw N A a = (0, _) from (tif_f (show ¬ a = 8 by omega)).trans (tif_t h)], fun v e => nomatch e⟩) (fun h M2 => ⟨hK, by rw [show q_count lw N A a = (0, _) from (tif_f (show ¬ a = 8 by omega)).trans ((tif_f (show ¬ a = 14 by omega)).trans (tif_t h))], fun v e => nomatch e⟩) (fun h M2 => ⟨hK, by rw [show q_count lw N A a = (0, _) from (tif_f (show ¬ a = 8 by omega)).trans ((tif_f (show ¬ a = 14 by omega)).trans ((tif_f (show ¬ a = 15 by omega)).trans (tif_t h)))], fun v e => nomatch e⟩) (fun h M2 => ⟨hK, by rw [show q_count lw N A a = (0, _) from (tif_f (show ¬ a = 8 by omega)).trans ((tif_f (show ¬ a = 14 by omega)).trans ((tif_f (show ¬ a = 15 by omega)).trans ((tif_f (show ¬ a = 16 by omega)).trans (tif_t h))))], fun v e => nomatch e⟩) (fun h M2 => ⟨hK, by rw [show q_count lw N A a = (0, _) from (tif_f (show ¬ a = 8 by omega)).trans ((tif_f (show ¬ a = 14 by omega)).trans ((tif_f (show ¬ a = 15 by omega)).trans ((tif_f (show ¬ a = 16 by omega)).trans ((tif_f (show ¬ a = 17 by omega)).trans (tif_f (by omega))))))], fun v e => nomatch e⟩)
theorem rq_count (hd : 24 ≤ d) (hE : E0 n K R) (hT : jT fun j => M 227 (395 + j)) (hS6 : NSb 6 N) (hG : GJ N) (hV : RFV N lw A im t w f M) (ia : gm_ir a) : gm_Wp X LX d bc bs 368 0 (gm_ent 368 [gm_vr 226, gm_vi a]) [] n K R M (RF (q_count lw N A a).1 (q_count lw N A a).2) := by
  have k226 := k226 hE
  exact re_count (o := ao lw N) (dd := adp N (hts (N 13)) (aphi lw N (hts (N 13)))) hd hE hV.1.1 hG.1.1 (flr_a hE (lawg_of hV.1.2.1 hT) hgeo_r hG.1.1 hG.1.1 hS6) ⟨hV.2.1, fun _ _ => rfl⟩ (fun l _ _ => aout_s l) (lr_89 hV.1.2.1) hV.1.2.2.1.1 ia (fun h h2 h3 M2 h0 => rf_e k226 ((tif_f (show ¬ a = 8 by omega)).trans ((tif_f (show ¬ a = 14 by omega)).trans ((tif_f (show ¬ a = 15 by omega)).trans ((tif_f (show ¬ a = 16 by omega)).trans ((tif_f (show ¬ a = 17 by omega)).trans (tif_t ⟨by omega, by omega⟩)))))) (fun _ => rfl) h0) (fun h M2 h0 => rf_e k226 (tif_t h) (fun _ => rfl) h0) (fun h M2 h0 => rf_e k226 ((tif_f (show ¬ a = 8 by omega)).trans (tif_t h)) (fun _ => rfl) h0) (fun h M2 h0 => rf_e k226 ((tif_f (show ¬ a = 8 by omega)).trans ((tif_f (show ¬ a = 14 by omega)).trans (tif_t h))) (fun _ => rfl) h0) (fun h M2 h0 => rf_e k226 ((tif_f (show ¬ a = 8 by omega)).trans ((tif_f (show ¬ a = 14 by omega)).trans ((tif_f (show ¬ a = 15 by omega)).trans (tif_t h)))) (fun _ => rfl) h0) (fun h M2 h0 => rf_e k226 ((tif_f (show ¬ a = 8 by omega)).trans ((tif_f (show ¬ a = 14 by omega)).trans ((tif_f (show ¬ a = 15 by omega)).trans ((tif_f (show ¬ a = 16 by omega)).trans (tif_t h))))) (fun _ => rfl) h0) (fun h M2 h0 => rf_e k226 ((tif_f (show ¬ a = 8 by omega)).trans ((tif_f (show ¬ a = 14 by omega)).trans ((tif_f (show ¬ a = 15 by omega)).trans ((tif_f (show ¬ a = 16 by omega)).trans ((tif_f (show ¬ a = 17 by omega)).trans (tif_f (by omega))))))) (fun _ => rfl) h0)
theorem fw_count (hb : bg g la K R M) (hR : REL la K M N lw A im t w f) (ia : gm_ir a) : ∀ z g1, bs_ok la z g1 → ¬ z = 100003 → gm_Wp X LX 279 6 600 63 0 (gm_ent 63 (gm_vr 1 :: [a].map gm_vi)) [] (245 + 4 * g1) (bs_K la K) (bs_R z g1) (bs_M la M) (CF (q_count lw N A a).2 none) := by
  intro z g1 hz hz3
  have hE := e0_w hb hz
  obtain ⟨NC, C, Ln, hcc, hlb⟩ := cc_w hb hz hz3 hR.2.1.1 hR.2.2.2.1.2.1
  exact cq_count (by decide) (by decide) (by decide) hE (k245 hE).2 hcc hlb hR.1.1 (clv_w hb hR.2.2.1) ia
theorem fm_count (hb : bg g la K R M) (hR : REL la K M N lw A im t w f) (ia : gm_ir a) : gm_Wp X LX 279 6 600 368 0 (gm_ent 368 (gm_vr 226 :: [a].map gm_vi)) [] 245 (bs_K la K) (bs_R 100003 0) (bs_M la M) (RF (q_count lw N A a).1 (q_count lw N A a).2) := rq_count (by decide) (e0_w hb (Or.inr (Or.inl ⟨rfl, rfl⟩))) (gJ_w hb) (ns6 (bs_F0 (z := 100003) hb) (rfv_w (la := la) hR.2.2.2).1.1.1 hR.1.1.1.1) hR.1.1 (rfv_w hR.2.2.2) ia
end CO55B
