/-! 7c14.hl -/
section
/-! ONE HEAP TOLD TWICE: the law's own methods, by what they call. -/
section HL14
variable {X : Int → Int} {LX d bc bs n : Nat} {K : gm_K} {R : gm_R} {M : gm_M} {Q : gm_Q}
theorem hl_70_0 : gm_hit (gm_ow 70) 3 0 false (gm_hh 70) = some (some 11) := by decide +kernel
theorem hl_70_1 : gm_hit (gm_ow 70) 3 1 false (gm_hh 70) = some (some 14) := by decide +kernel
theorem hl_70 (k1 : (1 ≤ 1 ∧ 1 ≤ n) ∧ (K 1).1 = 0 + 4) (h : gm_Wp X LX d bc bs 71 0 (gm_ent 71 [gm_vr 1]) [] n K R M (hQ [(0, 1), (1, 2)] Q)) : gm_Wp X LX (d + 1) bc bs 70 0 (gm_ent 70 [gm_vr 1, gm_vr 245]) [] n K R M Q := by
  refine gm_sz (gm_p_load (pc := 0) (i := .aload_n 1) (sr := 2) (j := 1) (by decide +kernel) rfl rfl rfl) ?_
  refine gm_sz (gm_p_const (pc := 1) (i := .iconst 0) (v := gm_vi 0) (by decide +kernel) (by decide +kernel)) ?_
  refine gm_sz (gm_p_load (pc := 2) (i := .aload_n 0) (sr := 2) (j := 0) (by decide +kernel) rfl rfl rfl) ?_
  refine gm_c_virtH (k := 1) (ci := 0) (mj := 71) (ix := 7) (pc := 3) (as := []) (st := [gm_vi 0, gm_vr 245]) (d' := d) (bc' := bc) (bs' := bs) (by decide +kernel) (by decide +kernel) (by decide +kernel) k1.1 k1.2 (by decide) (by decide +kernel) (show 0 = gm_na 71 by decide +kernel) fw_c0 (show 0 + 1 ≤ gm_ml 71 by decide +kernel) (Nat.le_of_ble_eq_true rfl) (Nat.le_refl _) (Nat.le_refl _) (Nat.le_refl _) ?_
  refine gm_Wp_mono (fun o n1 K1 R1 M1 hq => ?_) h
  obtain ⟨⟨hn, hK⟩, hq⟩ := hq
  rcases hq with ⟨v, rfl, hq⟩ | ⟨i, hi, rfl, hq⟩
  · show gm_Wp X LX (d + 1) _ _ 70 6 (gm_ent 70 [gm_vr 1, gm_vr 245]) [gm_vi v, gm_vi 0, gm_vr 245] n1 K1 R1 M1 Q
    refine gm_sz (gm_p_i2l (pc := 6) (by decide +kernel)) ?_
    refine gm_sz (gm_p_last (pc := 7) (k := 245) (by decide +kernel) ⟨by decide, hn⟩ (by rw [hK]) (by rw [hK]; decide)) ?_
    refine gm_sz (gm_p_goto (pc := 8) (off := 9) (by decide +kernel) (by decide)) ?_
    refine gm_sz (gm_p_const (pc := 17) (i := .iconst 0) (v := gm_vi 0) (by decide +kernel) (by decide +kernel)) ?_
    exact gm_r_int (pc := 18) (by decide +kernel) (Or.inl (by decide +kernel)) hq
  · simp only [List.mem_cons, List.not_mem_nil, or_false] at hi
    rcases hi with rfl | rfl
    · show (match gm_hit (gm_ow 70) 3 0 false (gm_hh 70) with
      | some (some h) => gm_Wp X LX (d + 1) _ _ 70 h (gm_ent 70 [gm_vr 1, gm_vr 245]) [gm_vo 4000] n1 K1 R1 M1 Q
      | some none => Q (.inr 0) n1 K1 R1 M1
      | none => False)
      rw [hl_70_0]
      show gm_Wp X LX (d + 1) _ _ 70 11 (gm_ent 70 [gm_vr 1, gm_vr 245]) [gm_vo 4000] n1 K1 R1 M1 Q
      refine gm_sz (gm_p_stor (pc := 11) (i := .astore_n 2) (sr := 2) (j := 2) (by decide +kernel) rfl (show 3 ≤ _ from Nat.le_of_ble_eq_true rfl) rfl) ?_
      refine gm_sz (gm_p_const (pc := 12) (i := .iconst 1) (v := gm_vi 1) (by decide +kernel) (by decide +kernel)) ?_
      exact gm_r_int (pc := 13) (by decide +kernel) (Or.inl (by decide +kernel)) hq
    · show (match gm_hit (gm_ow 70) 3 1 false (gm_hh 70) with
      | some (some h) => gm_Wp X LX (d + 1) _ _ 70 h (gm_ent 70 [gm_vr 1, gm_vr 245]) [gm_vo 4000] n1 K1 R1 M1 Q
      | some none => Q (.inr 1) n1 K1 R1 M1
      | none => False)
      rw [hl_70_1]
      show gm_Wp X LX (d + 1) _ _ 70 14 (gm_ent 70 [gm_vr 1, gm_vr 245]) [gm_vo 4000] n1 K1 R1 M1 Q
      refine gm_sz (gm_p_stor (pc := 14) (i := .astore_n 2) (sr := 2) (j := 2) (by decide +kernel) rfl (show 3 ≤ _ from Nat.le_of_ble_eq_true rfl) rfl) ?_
      refine gm_sz (gm_p_const (pc := 15) (i := .iconst 2) (v := gm_vi 2) (by decide +kernel) (by decide +kernel)) ?_
      exact gm_r_int (pc := 16) (by decide +kernel) (Or.inl (by decide +kernel)) hq
theorem hl_122_0 : gm_hit (gm_ow 122) 3 0 false (gm_hh 122) = some (some 11) := by decide +kernel
theorem hl_122 (k1 : (1 ≤ 1 ∧ 1 ≤ n) ∧ (K 1).1 = 0 + 4) (h : gm_Wp X LX d bc bs 123 0 (gm_ent 123 [gm_vr 1]) [] n K R M (hQ [(0, 1)] Q)) : gm_Wp X LX (d + 1) bc bs 122 0 (gm_ent 122 [gm_vr 1, gm_vr 245]) [] n K R M Q := by
  refine gm_sz (gm_p_load (pc := 0) (i := .aload_n 1) (sr := 2) (j := 1) (by decide +kernel) rfl rfl rfl) ?_
  refine gm_sz (gm_p_const (pc := 1) (i := .iconst 0) (v := gm_vi 0) (by decide +kernel) (by decide +kernel)) ?_
  refine gm_sz (gm_p_load (pc := 2) (i := .aload_n 0) (sr := 2) (j := 0) (by decide +kernel) rfl rfl rfl) ?_
  refine gm_c_virtH (k := 1) (ci := 0) (mj := 123) (ix := 17) (pc := 3) (as := []) (st := [gm_vi 0, gm_vr 245]) (d' := d) (bc' := bc) (bs' := bs) (by decide +kernel) (by decide +kernel) (by decide +kernel) k1.1 k1.2 (by decide) (by decide +kernel) (show 0 = gm_na 123 by decide +kernel) fw_c0 (show 0 + 1 ≤ gm_ml 123 by decide +kernel) (Nat.le_of_ble_eq_true rfl) (Nat.le_refl _) (Nat.le_refl _) (Nat.le_refl _) ?_
  refine gm_Wp_mono (fun o n1 K1 R1 M1 hq => ?_) h
  obtain ⟨⟨hn, hK⟩, hq⟩ := hq
  rcases hq with ⟨v, rfl, hq⟩ | ⟨i, hi, rfl, hq⟩
  · show gm_Wp X LX (d + 1) _ _ 122 6 (gm_ent 122 [gm_vr 1, gm_vr 245]) [gm_vi v, gm_vi 0, gm_vr 245] n1 K1 R1 M1 Q
    refine gm_sz (gm_p_i2l (pc := 6) (by decide +kernel)) ?_
    refine gm_sz (gm_p_last (pc := 7) (k := 245) (by decide +kernel) ⟨by decide, hn⟩ (by rw [hK]) (by rw [hK]; decide)) ?_
    refine gm_sz (gm_p_goto (pc := 8) (off := 6) (by decide +kernel) (by decide)) ?_
    refine gm_sz (gm_p_const (pc := 14) (i := .iconst 0) (v := gm_vi 0) (by decide +kernel) (by decide +kernel)) ?_
    exact gm_r_int (pc := 15) (by decide +kernel) (Or.inl (by decide +kernel)) hq
  · simp only [List.mem_cons, List.not_mem_nil, or_false] at hi
    rcases hi with rfl
    · show (match gm_hit (gm_ow 122) 3 0 false (gm_hh 122) with
      | some (some h) => gm_Wp X LX (d + 1) _ _ 122 h (gm_ent 122 [gm_vr 1, gm_vr 245]) [gm_vo 4000] n1 K1 R1 M1 Q
      | some none => Q (.inr 0) n1 K1 R1 M1
      | none => False)
      rw [hl_122_0]
      show gm_Wp X LX (d + 1) _ _ 122 11 (gm_ent 122 [gm_vr 1, gm_vr 245]) [gm_vo 4000] n1 K1 R1 M1 Q
      refine gm_sz (gm_p_stor (pc := 11) (i := .astore_n 2) (sr := 2) (j := 2) (by decide +kernel) rfl (show 3 ≤ _ from Nat.le_of_ble_eq_true rfl) rfl) ?_
      refine gm_sz (gm_p_const (pc := 12) (i := .iconst 1) (v := gm_vi 1) (by decide +kernel) (by decide +kernel)) ?_
      exact gm_r_int (pc := 13) (by decide +kernel) (Or.inl (by decide +kernel)) hq
theorem hl_127_0 : gm_hit (gm_ow 127) 4 0 false (gm_hh 127) = some (some 12) := by decide +kernel
theorem hl_127 {x0 : Int} (k1 : (1 ≤ 1 ∧ 1 ≤ n) ∧ (K 1).1 = 0 + 4) (h : gm_Wp X LX d bc bs 128 0 (gm_ent 128 [gm_vr 1, gm_vi x0]) [] n K R M (hQ [(0, 1)] Q)) : gm_Wp X LX (d + 1) bc bs 127 0 (gm_ent 127 [gm_vr 1, gm_vi x0, gm_vr 245]) [] n K R M Q := by
  refine gm_sz (gm_p_load (pc := 0) (i := .aload_n 2) (sr := 2) (j := 2) (by decide +kernel) rfl rfl rfl) ?_
  refine gm_sz (gm_p_const (pc := 1) (i := .iconst 0) (v := gm_vi 0) (by decide +kernel) (by decide +kernel)) ?_
  refine gm_sz (gm_p_load (pc := 2) (i := .aload_n 0) (sr := 2) (j := 0) (by decide +kernel) rfl rfl rfl) ?_
  refine gm_sz (gm_p_load (pc := 3) (i := .iload_n 1) (sr := 0) (j := 1) (by decide +kernel) rfl rfl rfl) ?_
  refine gm_c_virtH (k := 1) (ci := 0) (mj := 128) (ix := 20) (pc := 4) (as := [gm_vi x0]) (st := [gm_vi 0, gm_vr 245]) (d' := d) (bc' := bc) (bs' := bs) (by decide +kernel) (by decide +kernel) (by decide +kernel) k1.1 k1.2 (by decide) (by decide +kernel) (show 1 = gm_na 128 by decide +kernel) (fw_c1 (by simp [gm_sort])) (show 1 + 1 ≤ gm_ml 128 by decide +kernel) (Nat.le_of_ble_eq_true rfl) (Nat.le_refl _) (Nat.le_refl _) (Nat.le_refl _) ?_
  refine gm_Wp_mono (fun o n1 K1 R1 M1 hq => ?_) h
  obtain ⟨⟨hn, hK⟩, hq⟩ := hq
  rcases hq with ⟨v, rfl, hq⟩ | ⟨i, hi, rfl, hq⟩
  · show gm_Wp X LX (d + 1) _ _ 127 7 (gm_ent 127 [gm_vr 1, gm_vi x0, gm_vr 245]) [gm_vi v, gm_vi 0, gm_vr 245] n1 K1 R1 M1 Q
    refine gm_sz (gm_p_i2l (pc := 7) (by decide +kernel)) ?_
    refine gm_sz (gm_p_last (pc := 8) (k := 245) (by decide +kernel) ⟨by decide, hn⟩ (by rw [hK]) (by rw [hK]; decide)) ?_
    refine gm_sz (gm_p_goto (pc := 9) (off := 6) (by decide +kernel) (by decide)) ?_
    refine gm_sz (gm_p_const (pc := 15) (i := .iconst 0) (v := gm_vi 0) (by decide +kernel) (by decide +kernel)) ?_
    exact gm_r_int (pc := 16) (by decide +kernel) (Or.inl (by decide +kernel)) hq
  · simp only [List.mem_cons, List.not_mem_nil, or_false] at hi
    rcases hi with rfl
    · show (match gm_hit (gm_ow 127) 4 0 false (gm_hh 127) with
      | some (some h) => gm_Wp X LX (d + 1) _ _ 127 h (gm_ent 127 [gm_vr 1, gm_vi x0, gm_vr 245]) [gm_vo 4000] n1 K1 R1 M1 Q
      | some none => Q (.inr 0) n1 K1 R1 M1
      | none => False)
      rw [hl_127_0]
      show gm_Wp X LX (d + 1) _ _ 127 12 (gm_ent 127 [gm_vr 1, gm_vi x0, gm_vr 245]) [gm_vo 4000] n1 K1 R1 M1 Q
      refine gm_sz (gm_p_stor (pc := 12) (i := .astore_n 3) (sr := 2) (j := 3) (by decide +kernel) rfl (show 4 ≤ _ from Nat.le_of_ble_eq_true rfl) rfl) ?_
      refine gm_sz (gm_p_const (pc := 13) (i := .iconst 1) (v := gm_vi 1) (by decide +kernel) (by decide +kernel)) ?_
      exact gm_r_int (pc := 14) (by decide +kernel) (Or.inl (by decide +kernel)) hq
theorem hl_130_3 : gm_hit (gm_ow 130) 5 3 false (gm_hh 130) = some (some 13) := by decide +kernel
theorem hl_130 {x0 x1 : Int} (k1 : (1 ≤ 1 ∧ 1 ≤ n) ∧ (K 1).1 = 0 + 4) (h : gm_Wp X LX d bc bs 131 0 (gm_ent 131 [gm_vr 1, gm_vi x0, gm_vi x1]) [] n K R M (hQ [(3, 1)] Q)) : gm_Wp X LX (d + 1) bc bs 130 0 (gm_ent 130 [gm_vr 1, gm_vi x0, gm_vi x1, gm_vr 245]) [] n K R M Q := by
  refine gm_sz (gm_p_load (pc := 0) (i := .aload_n 3) (sr := 2) (j := 3) (by decide +kernel) rfl rfl rfl) ?_
  refine gm_sz (gm_p_const (pc := 1) (i := .iconst 0) (v := gm_vi 0) (by decide +kernel) (by decide +kernel)) ?_
  refine gm_sz (gm_p_load (pc := 2) (i := .aload_n 0) (sr := 2) (j := 0) (by decide +kernel) rfl rfl rfl) ?_
  refine gm_sz (gm_p_load (pc := 3) (i := .iload_n 1) (sr := 0) (j := 1) (by decide +kernel) rfl rfl rfl) ?_
  refine gm_sz (gm_p_load (pc := 4) (i := .iload_n 2) (sr := 0) (j := 2) (by decide +kernel) rfl rfl rfl) ?_
  refine gm_c_virtH (k := 1) (ci := 0) (mj := 131) (ix := 24) (pc := 5) (as := [gm_vi x0, gm_vi x1]) (st := [gm_vi 0, gm_vr 245]) (d' := d) (bc' := bc) (bs' := bs) (by decide +kernel) (by decide +kernel) (by decide +kernel) k1.1 k1.2 (by decide) (by decide +kernel) (show 2 = gm_na 131 by decide +kernel) (fun v hv => by simp only [List.mem_cons, List.not_mem_nil, or_false] at hv; rcases hv with rfl | rfl <;> simp [gm_sort]) (show 2 + 1 ≤ gm_ml 131 by decide +kernel) (Nat.le_of_ble_eq_true rfl) (Nat.le_refl _) (Nat.le_refl _) (Nat.le_refl _) ?_
  refine gm_Wp_mono (fun o n1 K1 R1 M1 hq => ?_) h
  obtain ⟨⟨hn, hK⟩, hq⟩ := hq
  rcases hq with ⟨v, rfl, hq⟩ | ⟨i, hi, rfl, hq⟩
  · show gm_Wp X LX (d + 1) _ _ 130 8 (gm_ent 130 [gm_vr 1, gm_vi x0, gm_vi x1, gm_vr 245]) [gm_vi v, gm_vi 0, gm_vr 245] n1 K1 R1 M1 Q
    refine gm_sz (gm_p_i2l (pc := 8) (by decide +kernel)) ?_
    refine gm_sz (gm_p_last (pc := 9) (k := 245) (by decide +kernel) ⟨by decide, hn⟩ (by rw [hK]) (by rw [hK]; decide)) ?_
    refine gm_sz (gm_p_goto (pc := 10) (off := 7) (by decide +kernel) (by decide)) ?_
    refine gm_sz (gm_p_const (pc := 17) (i := .iconst 0) (v := gm_vi 0) (by decide +kernel) (by decide +kernel)) ?_
    exact gm_r_int (pc := 18) (by decide +kernel) (Or.inl (by decide +kernel)) hq
  · simp only [List.mem_cons, List.not_mem_nil, or_false] at hi
    rcases hi with rfl
    · show (match gm_hit (gm_ow 130) 5 3 false (gm_hh 130) with
      | some (some h) => gm_Wp X LX (d + 1) _ _ 130 h (gm_ent 130 [gm_vr 1, gm_vi x0, gm_vi x1, gm_vr 245]) [gm_vo 4000] n1 K1 R1 M1 Q
      | some none => Q (.inr 3) n1 K1 R1 M1
      | none => False)
      rw [hl_130_3]
      show gm_Wp X LX (d + 1) _ _ 130 13 (gm_ent 130 [gm_vr 1, gm_vi x0, gm_vi x1, gm_vr 245]) [gm_vo 4000] n1 K1 R1 M1 Q
      refine gm_sz (gm_p_stor (pc := 13) (i := .astore 4) (sr := 2) (j := 4) (by decide +kernel) rfl (show 5 ≤ _ from Nat.le_of_ble_eq_true rfl) rfl) ?_
      refine gm_sz (gm_p_const (pc := 15) (i := .iconst 1) (v := gm_vi 1) (by decide +kernel) (by decide +kernel)) ?_
      exact gm_r_int (pc := 16) (by decide +kernel) (Or.inl (by decide +kernel)) hq
theorem hl_135_3 : gm_hit (gm_ow 135) 7 3 false (gm_hh 135) = some (some 15) := by decide +kernel
theorem hl_135_0 : gm_hit (gm_ow 135) 7 0 false (gm_hh 135) = some (some 19) := by decide +kernel
theorem hl_135 {x0 x1 x2 : Int} (k1 : (1 ≤ 1 ∧ 1 ≤ n) ∧ (K 1).1 = 0 + 4) (h : gm_Wp X LX d bc bs 136 0 (gm_ent 136 [gm_vr 1, gm_vi x0, gm_vi x1, gm_vi x2]) [] n K R M (hQ [(3, 1), (0, 2)] Q)) : gm_Wp X LX (d + 1) bc bs 135 0 (gm_ent 135 [gm_vr 1, gm_vi x0, gm_vi x1, gm_vi x2, gm_vr 245]) [] n K R M Q := by
  refine gm_sz (gm_p_load (pc := 0) (i := .aload 4) (sr := 2) (j := 4) (by decide +kernel) rfl rfl rfl) ?_
  refine gm_sz (gm_p_const (pc := 2) (i := .iconst 0) (v := gm_vi 0) (by decide +kernel) (by decide +kernel)) ?_
  refine gm_sz (gm_p_load (pc := 3) (i := .aload_n 0) (sr := 2) (j := 0) (by decide +kernel) rfl rfl rfl) ?_
  refine gm_sz (gm_p_load (pc := 4) (i := .iload_n 1) (sr := 0) (j := 1) (by decide +kernel) rfl rfl rfl) ?_
  refine gm_sz (gm_p_load (pc := 5) (i := .iload_n 2) (sr := 0) (j := 2) (by decide +kernel) rfl rfl rfl) ?_
  refine gm_sz (gm_p_load (pc := 6) (i := .iload_n 3) (sr := 0) (j := 3) (by decide +kernel) rfl rfl rfl) ?_
  refine gm_c_virtH (k := 1) (ci := 0) (mj := 136) (ix := 30) (pc := 7) (as := [gm_vi x0, gm_vi x1, gm_vi x2]) (st := [gm_vi 0, gm_vr 245]) (d' := d) (bc' := bc) (bs' := bs) (by decide +kernel) (by decide +kernel) (by decide +kernel) k1.1 k1.2 (by decide) (by decide +kernel) (show 3 = gm_na 136 by decide +kernel) (fun v hv => by simp only [List.mem_cons, List.not_mem_nil, or_false] at hv; rcases hv with rfl | rfl | rfl <;> simp [gm_sort]) (show 3 + 1 ≤ gm_ml 136 by decide +kernel) (Nat.le_of_ble_eq_true rfl) (Nat.le_refl _) (Nat.le_refl _) (Nat.le_refl _) ?_
  refine gm_Wp_mono (fun o n1 K1 R1 M1 hq => ?_) h
  obtain ⟨⟨hn, hK⟩, hq⟩ := hq
  rcases hq with ⟨v, rfl, hq⟩ | ⟨i, hi, rfl, hq⟩
  · show gm_Wp X LX (d + 1) _ _ 135 10 (gm_ent 135 [gm_vr 1, gm_vi x0, gm_vi x1, gm_vi x2, gm_vr 245]) [gm_vi v, gm_vi 0, gm_vr 245] n1 K1 R1 M1 Q
    refine gm_sz (gm_p_i2l (pc := 10) (by decide +kernel)) ?_
    refine gm_sz (gm_p_last (pc := 11) (k := 245) (by decide +kernel) ⟨by decide, hn⟩ (by rw [hK]) (by rw [hK]; decide)) ?_
    refine gm_sz (gm_p_goto (pc := 12) (off := 11) (by decide +kernel) (by decide)) ?_
    refine gm_sz (gm_p_const (pc := 23) (i := .iconst 0) (v := gm_vi 0) (by decide +kernel) (by decide +kernel)) ?_
    exact gm_r_int (pc := 24) (by decide +kernel) (Or.inl (by decide +kernel)) hq
  · simp only [List.mem_cons, List.not_mem_nil, or_false] at hi
    rcases hi with rfl | rfl
    · show (match gm_hit (gm_ow 135) 7 3 false (gm_hh 135) with
      | some (some h) => gm_Wp X LX (d + 1) _ _ 135 h (gm_ent 135 [gm_vr 1, gm_vi x0, gm_vi x1, gm_vi x2, gm_vr 245]) [gm_vo 4000] n1 K1 R1 M1 Q
      | some none => Q (.inr 3) n1 K1 R1 M1
      | none => False)
      rw [hl_135_3]
      show gm_Wp X LX (d + 1) _ _ 135 15 (gm_ent 135 [gm_vr 1, gm_vi x0, gm_vi x1, gm_vi x2, gm_vr 245]) [gm_vo 4000] n1 K1 R1 M1 Q
      refine gm_sz (gm_p_stor (pc := 15) (i := .astore 5) (sr := 2) (j := 5) (by decide +kernel) rfl (show 6 ≤ _ from Nat.le_of_ble_eq_true rfl) rfl) ?_
      refine gm_sz (gm_p_const (pc := 17) (i := .iconst 1) (v := gm_vi 1) (by decide +kernel) (by decide +kernel)) ?_
      exact gm_r_int (pc := 18) (by decide +kernel) (Or.inl (by decide +kernel)) hq
    · show (match gm_hit (gm_ow 135) 7 0 false (gm_hh 135) with
      | some (some h) => gm_Wp X LX (d + 1) _ _ 135 h (gm_ent 135 [gm_vr 1, gm_vi x0, gm_vi x1, gm_vi x2, gm_vr 245]) [gm_vo 4000] n1 K1 R1 M1 Q
      | some none => Q (.inr 0) n1 K1 R1 M1
      | none => False)
      rw [hl_135_0]
      show gm_Wp X LX (d + 1) _ _ 135 19 (gm_ent 135 [gm_vr 1, gm_vi x0, gm_vi x1, gm_vi x2, gm_vr 245]) [gm_vo 4000] n1 K1 R1 M1 Q
      refine gm_sz (gm_p_stor (pc := 19) (i := .astore 5) (sr := 2) (j := 5) (by decide +kernel) rfl (show 6 ≤ _ from Nat.le_of_ble_eq_true rfl) rfl) ?_
      refine gm_sz (gm_p_const (pc := 21) (i := .iconst 2) (v := gm_vi 2) (by decide +kernel) (by decide +kernel)) ?_
      exact gm_r_int (pc := 22) (by decide +kernel) (Or.inl (by decide +kernel)) hq
theorem hl_137_3 : gm_hit (gm_ow 137) 5 3 false (gm_hh 137) = some (some 13) := by decide +kernel
theorem hl_137_4 : gm_hit (gm_ow 137) 5 4 false (gm_hh 137) = some (some 17) := by decide +kernel
theorem hl_137 {x0 x1 : Int} (k1 : (1 ≤ 1 ∧ 1 ≤ n) ∧ (K 1).1 = 0 + 4) (h : gm_Wp X LX d bc bs 138 0 (gm_ent 138 [gm_vr 1, gm_vi x0, gm_vi x1]) [] n K R M (hQ [(3, 1), (4, 2)] Q)) : gm_Wp X LX (d + 1) bc bs 137 0 (gm_ent 137 [gm_vr 1, gm_vi x0, gm_vi x1, gm_vr 245]) [] n K R M Q := by
  refine gm_sz (gm_p_load (pc := 0) (i := .aload_n 3) (sr := 2) (j := 3) (by decide +kernel) rfl rfl rfl) ?_
  refine gm_sz (gm_p_const (pc := 1) (i := .iconst 0) (v := gm_vi 0) (by decide +kernel) (by decide +kernel)) ?_
  refine gm_sz (gm_p_load (pc := 2) (i := .aload_n 0) (sr := 2) (j := 0) (by decide +kernel) rfl rfl rfl) ?_
  refine gm_sz (gm_p_load (pc := 3) (i := .iload_n 1) (sr := 0) (j := 1) (by decide +kernel) rfl rfl rfl) ?_
  refine gm_sz (gm_p_load (pc := 4) (i := .iload_n 2) (sr := 0) (j := 2) (by decide +kernel) rfl rfl rfl) ?_
  refine gm_c_virtH (k := 1) (ci := 0) (mj := 138) (ix := 34) (pc := 5) (as := [gm_vi x0, gm_vi x1]) (st := [gm_vi 0, gm_vr 245]) (d' := d) (bc' := bc) (bs' := bs) (by decide +kernel) (by decide +kernel) (by decide +kernel) k1.1 k1.2 (by decide) (by decide +kernel) (show 2 = gm_na 138 by decide +kernel) (fun v hv => by simp only [List.mem_cons, List.not_mem_nil, or_false] at hv; rcases hv with rfl | rfl <;> simp [gm_sort]) (show 2 + 1 ≤ gm_ml 138 by decide +kernel) (Nat.le_of_ble_eq_true rfl) (Nat.le_refl _) (Nat.le_refl _) (Nat.le_refl _) ?_
  refine gm_Wp_mono (fun o n1 K1 R1 M1 hq => ?_) h
  obtain ⟨⟨hn, hK⟩, hq⟩ := hq
  rcases hq with ⟨v, rfl, hq⟩ | ⟨i, hi, rfl, hq⟩
  · show gm_Wp X LX (d + 1) _ _ 137 8 (gm_ent 137 [gm_vr 1, gm_vi x0, gm_vi x1, gm_vr 245]) [gm_vi v, gm_vi 0, gm_vr 245] n1 K1 R1 M1 Q
    refine gm_sz (gm_p_i2l (pc := 8) (by decide +kernel)) ?_
    refine gm_sz (gm_p_last (pc := 9) (k := 245) (by decide +kernel) ⟨by decide, hn⟩ (by rw [hK]) (by rw [hK]; decide)) ?_
    refine gm_sz (gm_p_goto (pc := 10) (off := 11) (by decide +kernel) (by decide)) ?_
    refine gm_sz (gm_p_const (pc := 21) (i := .iconst 0) (v := gm_vi 0) (by decide +kernel) (by decide +kernel)) ?_
    exact gm_r_int (pc := 22) (by decide +kernel) (Or.inl (by decide +kernel)) hq
  · simp only [List.mem_cons, List.not_mem_nil, or_false] at hi
    rcases hi with rfl | rfl
    · show (match gm_hit (gm_ow 137) 5 3 false (gm_hh 137) with
      | some (some h) => gm_Wp X LX (d + 1) _ _ 137 h (gm_ent 137 [gm_vr 1, gm_vi x0, gm_vi x1, gm_vr 245]) [gm_vo 4000] n1 K1 R1 M1 Q
      | some none => Q (.inr 3) n1 K1 R1 M1
      | none => False)
      rw [hl_137_3]
      show gm_Wp X LX (d + 1) _ _ 137 13 (gm_ent 137 [gm_vr 1, gm_vi x0, gm_vi x1, gm_vr 245]) [gm_vo 4000] n1 K1 R1 M1 Q
      refine gm_sz (gm_p_stor (pc := 13) (i := .astore 4) (sr := 2) (j := 4) (by decide +kernel) rfl (show 5 ≤ _ from Nat.le_of_ble_eq_true rfl) rfl) ?_
      refine gm_sz (gm_p_const (pc := 15) (i := .iconst 1) (v := gm_vi 1) (by decide +kernel) (by decide +kernel)) ?_
      exact gm_r_int (pc := 16) (by decide +kernel) (Or.inl (by decide +kernel)) hq
    · show (match gm_hit (gm_ow 137) 5 4 false (gm_hh 137) with
      | some (some h) => gm_Wp X LX (d + 1) _ _ 137 h (gm_ent 137 [gm_vr 1, gm_vi x0, gm_vi x1, gm_vr 245]) [gm_vo 4000] n1 K1 R1 M1 Q
      | some none => Q (.inr 4) n1 K1 R1 M1
      | none => False)
      rw [hl_137_4]
      show gm_Wp X LX (d + 1) _ _ 137 17 (gm_ent 137 [gm_vr 1, gm_vi x0, gm_vi x1, gm_vr 245]) [gm_vo 4000] n1 K1 R1 M1 Q
      refine gm_sz (gm_p_stor (pc := 17) (i := .astore 4) (sr := 2) (j := 4) (by decide +kernel) rfl (show 5 ≤ _ from Nat.le_of_ble_eq_true rfl) rfl) ?_
      refine gm_sz (gm_p_const (pc := 19) (i := .iconst 2) (v := gm_vi 2) (by decide +kernel) (by decide +kernel)) ?_
      exact gm_r_int (pc := 20) (by decide +kernel) (Or.inl (by decide +kernel)) hq
theorem hl_141_3 : gm_hit (gm_ow 141) 5 3 false (gm_hh 141) = some (some 13) := by decide +kernel
theorem hl_141_4 : gm_hit (gm_ow 141) 5 4 false (gm_hh 141) = some (some 17) := by decide +kernel
theorem hl_141 {x0 x1 : Int} (k1 : (1 ≤ 1 ∧ 1 ≤ n) ∧ (K 1).1 = 0 + 4) (h : gm_Wp X LX d bc bs 142 0 (gm_ent 142 [gm_vr 1, gm_vi x0, gm_vi x1]) [] n K R M (hQ [(3, 1), (4, 2)] Q)) : gm_Wp X LX (d + 1) bc bs 141 0 (gm_ent 141 [gm_vr 1, gm_vi x0, gm_vi x1, gm_vr 245]) [] n K R M Q := by
  refine gm_sz (gm_p_load (pc := 0) (i := .aload_n 3) (sr := 2) (j := 3) (by decide +kernel) rfl rfl rfl) ?_
  refine gm_sz (gm_p_const (pc := 1) (i := .iconst 0) (v := gm_vi 0) (by decide +kernel) (by decide +kernel)) ?_
  refine gm_sz (gm_p_load (pc := 2) (i := .aload_n 0) (sr := 2) (j := 0) (by decide +kernel) rfl rfl rfl) ?_
  refine gm_sz (gm_p_load (pc := 3) (i := .iload_n 1) (sr := 0) (j := 1) (by decide +kernel) rfl rfl rfl) ?_
  refine gm_sz (gm_p_load (pc := 4) (i := .iload_n 2) (sr := 0) (j := 2) (by decide +kernel) rfl rfl rfl) ?_
  refine gm_c_virtH (k := 1) (ci := 0) (mj := 142) (ix := 39) (pc := 5) (as := [gm_vi x0, gm_vi x1]) (st := [gm_vi 0, gm_vr 245]) (d' := d) (bc' := bc) (bs' := bs) (by decide +kernel) (by decide +kernel) (by decide +kernel) k1.1 k1.2 (by decide) (by decide +kernel) (show 2 = gm_na 142 by decide +kernel) (fun v hv => by simp only [List.mem_cons, List.not_mem_nil, or_false] at hv; rcases hv with rfl | rfl <;> simp [gm_sort]) (show 2 + 1 ≤ gm_ml 142 by decide +kernel) (Nat.le_of_ble_eq_true rfl) (Nat.le_refl _) (Nat.le_refl _) (Nat.le_refl _) ?_
  refine gm_Wp_mono (fun o n1 K1 R1 M1 hq => ?_) h
  obtain ⟨⟨hn, hK⟩, hq⟩ := hq
  rcases hq with ⟨v, rfl, hq⟩ | ⟨i, hi, rfl, hq⟩
  · show gm_Wp X LX (d + 1) _ _ 141 8 (gm_ent 141 [gm_vr 1, gm_vi x0, gm_vi x1, gm_vr 245]) [gm_vi v, gm_vi 0, gm_vr 245] n1 K1 R1 M1 Q
    refine gm_sz (gm_p_i2l (pc := 8) (by decide +kernel)) ?_
    refine gm_sz (gm_p_last (pc := 9) (k := 245) (by decide +kernel) ⟨by decide, hn⟩ (by rw [hK]) (by rw [hK]; decide)) ?_
    refine gm_sz (gm_p_goto (pc := 10) (off := 11) (by decide +kernel) (by decide)) ?_
    refine gm_sz (gm_p_const (pc := 21) (i := .iconst 0) (v := gm_vi 0) (by decide +kernel) (by decide +kernel)) ?_
    exact gm_r_int (pc := 22) (by decide +kernel) (Or.inl (by decide +kernel)) hq
  · simp only [List.mem_cons, List.not_mem_nil, or_false] at hi
    rcases hi with rfl | rfl
    · show (match gm_hit (gm_ow 141) 5 3 false (gm_hh 141) with
      | some (some h) => gm_Wp X LX (d + 1) _ _ 141 h (gm_ent 141 [gm_vr 1, gm_vi x0, gm_vi x1, gm_vr 245]) [gm_vo 4000] n1 K1 R1 M1 Q
      | some none => Q (.inr 3) n1 K1 R1 M1
      | none => False)
      rw [hl_141_3]
      show gm_Wp X LX (d + 1) _ _ 141 13 (gm_ent 141 [gm_vr 1, gm_vi x0, gm_vi x1, gm_vr 245]) [gm_vo 4000] n1 K1 R1 M1 Q
      refine gm_sz (gm_p_stor (pc := 13) (i := .astore 4) (sr := 2) (j := 4) (by decide +kernel) rfl (show 5 ≤ _ from Nat.le_of_ble_eq_true rfl) rfl) ?_
      refine gm_sz (gm_p_const (pc := 15) (i := .iconst 1) (v := gm_vi 1) (by decide +kernel) (by decide +kernel)) ?_
      exact gm_r_int (pc := 16) (by decide +kernel) (Or.inl (by decide +kernel)) hq
    · show (match gm_hit (gm_ow 141) 5 4 false (gm_hh 141) with
      | some (some h) => gm_Wp X LX (d + 1) _ _ 141 h (gm_ent 141 [gm_vr 1, gm_vi x0, gm_vi x1, gm_vr 245]) [gm_vo 4000] n1 K1 R1 M1 Q
      | some none => Q (.inr 4) n1 K1 R1 M1
      | none => False)
      rw [hl_141_4]
      show gm_Wp X LX (d + 1) _ _ 141 17 (gm_ent 141 [gm_vr 1, gm_vi x0, gm_vi x1, gm_vr 245]) [gm_vo 4000] n1 K1 R1 M1 Q
      refine gm_sz (gm_p_stor (pc := 17) (i := .astore 4) (sr := 2) (j := 4) (by decide +kernel) rfl (show 5 ≤ _ from Nat.le_of_ble_eq_true rfl) rfl) ?_
      refine gm_sz (gm_p_const (pc := 19) (i := .iconst 2) (v := gm_vi 2) (by decide +kernel) (by decide +kernel)) ?_
      exact gm_r_int (pc := 20) (by decide +kernel) (Or.inl (by decide +kernel)) hq
theorem hl_146_3 : gm_hit (gm_ow 146) 5 3 false (gm_hh 146) = some (some 13) := by decide +kernel
theorem hl_146_0 : gm_hit (gm_ow 146) 5 0 false (gm_hh 146) = some (some 17) := by decide +kernel
theorem hl_146 {x0 x1 : Int} (k1 : (1 ≤ 1 ∧ 1 ≤ n) ∧ (K 1).1 = 0 + 4) (h : gm_Wp X LX d bc bs 147 0 (gm_ent 147 [gm_vr 1, gm_vi x0, gm_vi x1]) [] n K R M (hQ [(3, 1), (0, 2)] Q)) : gm_Wp X LX (d + 1) bc bs 146 0 (gm_ent 146 [gm_vr 1, gm_vi x0, gm_vi x1, gm_vr 245]) [] n K R M Q := by
  refine gm_sz (gm_p_load (pc := 0) (i := .aload_n 3) (sr := 2) (j := 3) (by decide +kernel) rfl rfl rfl) ?_
  refine gm_sz (gm_p_const (pc := 1) (i := .iconst 0) (v := gm_vi 0) (by decide +kernel) (by decide +kernel)) ?_
  refine gm_sz (gm_p_load (pc := 2) (i := .aload_n 0) (sr := 2) (j := 0) (by decide +kernel) rfl rfl rfl) ?_
  refine gm_sz (gm_p_load (pc := 3) (i := .iload_n 1) (sr := 0) (j := 1) (by decide +kernel) rfl rfl rfl) ?_
  refine gm_sz (gm_p_load (pc := 4) (i := .iload_n 2) (sr := 0) (j := 2) (by decide +kernel) rfl rfl rfl) ?_
  refine gm_c_virtH (k := 1) (ci := 0) (mj := 147) (ix := 42) (pc := 5) (as := [gm_vi x0, gm_vi x1]) (st := [gm_vi 0, gm_vr 245]) (d' := d) (bc' := bc) (bs' := bs) (by decide +kernel) (by decide +kernel) (by decide +kernel) k1.1 k1.2 (by decide) (by decide +kernel) (show 2 = gm_na 147 by decide +kernel) (fun v hv => by simp only [List.mem_cons, List.not_mem_nil, or_false] at hv; rcases hv with rfl | rfl <;> simp [gm_sort]) (show 2 + 1 ≤ gm_ml 147 by decide +kernel) (Nat.le_of_ble_eq_true rfl) (Nat.le_refl _) (Nat.le_refl _) (Nat.le_refl _) ?_
  refine gm_Wp_mono (fun o n1 K1 R1 M1 hq => ?_) h
  obtain ⟨⟨hn, hK⟩, hq⟩ := hq
  rcases hq with ⟨v, rfl, hq⟩ | ⟨i, hi, rfl, hq⟩
  · show gm_Wp X LX (d + 1) _ _ 146 8 (gm_ent 146 [gm_vr 1, gm_vi x0, gm_vi x1, gm_vr 245]) [gm_vi v, gm_vi 0, gm_vr 245] n1 K1 R1 M1 Q
    refine gm_sz (gm_p_i2l (pc := 8) (by decide +kernel)) ?_
    refine gm_sz (gm_p_last (pc := 9) (k := 245) (by decide +kernel) ⟨by decide, hn⟩ (by rw [hK]) (by rw [hK]; decide)) ?_
    refine gm_sz (gm_p_goto (pc := 10) (off := 11) (by decide +kernel) (by decide)) ?_
    refine gm_sz (gm_p_const (pc := 21) (i := .iconst 0) (v := gm_vi 0) (by decide +kernel) (by decide +kernel)) ?_
    exact gm_r_int (pc := 22) (by decide +kernel) (Or.inl (by decide +kernel)) hq
  · simp only [List.mem_cons, List.not_mem_nil, or_false] at hi
    rcases hi with rfl | rfl
    · show (match gm_hit (gm_ow 146) 5 3 false (gm_hh 146) with
      | some (some h) => gm_Wp X LX (d + 1) _ _ 146 h (gm_ent 146 [gm_vr 1, gm_vi x0, gm_vi x1, gm_vr 245]) [gm_vo 4000] n1 K1 R1 M1 Q
      | some none => Q (.inr 3) n1 K1 R1 M1
      | none => False)
      rw [hl_146_3]
      show gm_Wp X LX (d + 1) _ _ 146 13 (gm_ent 146 [gm_vr 1, gm_vi x0, gm_vi x1, gm_vr 245]) [gm_vo 4000] n1 K1 R1 M1 Q
      refine gm_sz (gm_p_stor (pc := 13) (i := .astore 4) (sr := 2) (j := 4) (by decide +kernel) rfl (show 5 ≤ _ from Nat.le_of_ble_eq_true rfl) rfl) ?_
      refine gm_sz (gm_p_const (pc := 15) (i := .iconst 1) (v := gm_vi 1) (by decide +kernel) (by decide +kernel)) ?_
      exact gm_r_int (pc := 16) (by decide +kernel) (Or.inl (by decide +kernel)) hq
    · show (match gm_hit (gm_ow 146) 5 0 false (gm_hh 146) with
      | some (some h) => gm_Wp X LX (d + 1) _ _ 146 h (gm_ent 146 [gm_vr 1, gm_vi x0, gm_vi x1, gm_vr 245]) [gm_vo 4000] n1 K1 R1 M1 Q
      | some none => Q (.inr 0) n1 K1 R1 M1
      | none => False)
      rw [hl_146_0]
      show gm_Wp X LX (d + 1) _ _ 146 17 (gm_ent 146 [gm_vr 1, gm_vi x0, gm_vi x1, gm_vr 245]) [gm_vo 4000] n1 K1 R1 M1 Q
      refine gm_sz (gm_p_stor (pc := 17) (i := .astore 4) (sr := 2) (j := 4) (by decide +kernel) rfl (show 5 ≤ _ from Nat.le_of_ble_eq_true rfl) rfl) ?_
      refine gm_sz (gm_p_const (pc := 19) (i := .iconst 2) (v := gm_vi 2) (by decide +kernel) (by decide +kernel)) ?_
      exact gm_r_int (pc := 20) (by decide +kernel) (Or.inl (by decide +kernel)) hq
theorem hl_149_3 : gm_hit (gm_ow 149) 5 3 false (gm_hh 149) = some (some 13) := by decide +kernel
theorem hl_149_0 : gm_hit (gm_ow 149) 5 0 false (gm_hh 149) = some (some 17) := by decide +kernel
theorem hl_149 {x0 x1 : Int} (k1 : (1 ≤ 1 ∧ 1 ≤ n) ∧ (K 1).1 = 0 + 4) (h : gm_Wp X LX d bc bs 150 0 (gm_ent 150 [gm_vr 1, gm_vi x0, gm_vi x1]) [] n K R M (hQ [(3, 1), (0, 2)] Q)) : gm_Wp X LX (d + 1) bc bs 149 0 (gm_ent 149 [gm_vr 1, gm_vi x0, gm_vi x1, gm_vr 245]) [] n K R M Q := by
  refine gm_sz (gm_p_load (pc := 0) (i := .aload_n 3) (sr := 2) (j := 3) (by decide +kernel) rfl rfl rfl) ?_
  refine gm_sz (gm_p_const (pc := 1) (i := .iconst 0) (v := gm_vi 0) (by decide +kernel) (by decide +kernel)) ?_
  refine gm_sz (gm_p_load (pc := 2) (i := .aload_n 0) (sr := 2) (j := 0) (by decide +kernel) rfl rfl rfl) ?_
  refine gm_sz (gm_p_load (pc := 3) (i := .iload_n 1) (sr := 0) (j := 1) (by decide +kernel) rfl rfl rfl) ?_
  refine gm_sz (gm_p_load (pc := 4) (i := .iload_n 2) (sr := 0) (j := 2) (by decide +kernel) rfl rfl rfl) ?_
  refine gm_c_virtH (k := 1) (ci := 0) (mj := 150) (ix := 45) (pc := 5) (as := [gm_vi x0, gm_vi x1]) (st := [gm_vi 0, gm_vr 245]) (d' := d) (bc' := bc) (bs' := bs) (by decide +kernel) (by decide +kernel) (by decide +kernel) k1.1 k1.2 (by decide) (by decide +kernel) (show 2 = gm_na 150 by decide +kernel) (fun v hv => by simp only [List.mem_cons, List.not_mem_nil, or_false] at hv; rcases hv with rfl | rfl <;> simp [gm_sort]) (show 2 + 1 ≤ gm_ml 150 by decide +kernel) (Nat.le_of_ble_eq_true rfl) (Nat.le_refl _) (Nat.le_refl _) (Nat.le_refl _) ?_
  refine gm_Wp_mono (fun o n1 K1 R1 M1 hq => ?_) h
  obtain ⟨⟨hn, hK⟩, hq⟩ := hq
  rcases hq with ⟨v, rfl, hq⟩ | ⟨i, hi, rfl, hq⟩
  · show gm_Wp X LX (d + 1) _ _ 149 8 (gm_ent 149 [gm_vr 1, gm_vi x0, gm_vi x1, gm_vr 245]) [gm_vi v, gm_vi 0, gm_vr 245] n1 K1 R1 M1 Q
    refine gm_sz (gm_p_i2l (pc := 8) (by decide +kernel)) ?_
    refine gm_sz (gm_p_last (pc := 9) (k := 245) (by decide +kernel) ⟨by decide, hn⟩ (by rw [hK]) (by rw [hK]; decide)) ?_
    refine gm_sz (gm_p_goto (pc := 10) (off := 11) (by decide +kernel) (by decide)) ?_
    refine gm_sz (gm_p_const (pc := 21) (i := .iconst 0) (v := gm_vi 0) (by decide +kernel) (by decide +kernel)) ?_
    exact gm_r_int (pc := 22) (by decide +kernel) (Or.inl (by decide +kernel)) hq
  · simp only [List.mem_cons, List.not_mem_nil, or_false] at hi
    rcases hi with rfl | rfl
    · show (match gm_hit (gm_ow 149) 5 3 false (gm_hh 149) with
      | some (some h) => gm_Wp X LX (d + 1) _ _ 149 h (gm_ent 149 [gm_vr 1, gm_vi x0, gm_vi x1, gm_vr 245]) [gm_vo 4000] n1 K1 R1 M1 Q
      | some none => Q (.inr 3) n1 K1 R1 M1
      | none => False)
      rw [hl_149_3]
      show gm_Wp X LX (d + 1) _ _ 149 13 (gm_ent 149 [gm_vr 1, gm_vi x0, gm_vi x1, gm_vr 245]) [gm_vo 4000] n1 K1 R1 M1 Q
      refine gm_sz (gm_p_stor (pc := 13) (i := .astore 4) (sr := 2) (j := 4) (by decide +kernel) rfl (show 5 ≤ _ from Nat.le_of_ble_eq_true rfl) rfl) ?_
      refine gm_sz (gm_p_const (pc := 15) (i := .iconst 1) (v := gm_vi 1) (by decide +kernel) (by decide +kernel)) ?_
      exact gm_r_int (pc := 16) (by decide +kernel) (Or.inl (by decide +kernel)) hq
    · show (match gm_hit (gm_ow 149) 5 0 false (gm_hh 149) with
      | some (some h) => gm_Wp X LX (d + 1) _ _ 149 h (gm_ent 149 [gm_vr 1, gm_vi x0, gm_vi x1, gm_vr 245]) [gm_vo 4000] n1 K1 R1 M1 Q
      | some none => Q (.inr 0) n1 K1 R1 M1
      | none => False)
      rw [hl_149_0]
      show gm_Wp X LX (d + 1) _ _ 149 17 (gm_ent 149 [gm_vr 1, gm_vi x0, gm_vi x1, gm_vr 245]) [gm_vo 4000] n1 K1 R1 M1 Q
      refine gm_sz (gm_p_stor (pc := 17) (i := .astore 4) (sr := 2) (j := 4) (by decide +kernel) rfl (show 5 ≤ _ from Nat.le_of_ble_eq_true rfl) rfl) ?_
      refine gm_sz (gm_p_const (pc := 19) (i := .iconst 2) (v := gm_vi 2) (by decide +kernel) (by decide +kernel)) ?_
      exact gm_r_int (pc := 20) (by decide +kernel) (Or.inl (by decide +kernel)) hq
theorem hl_151_3 : gm_hit (gm_ow 151) 5 3 false (gm_hh 151) = some (some 13) := by decide +kernel
theorem hl_151_0 : gm_hit (gm_ow 151) 5 0 false (gm_hh 151) = some (some 17) := by decide +kernel
theorem hl_151_1 : gm_hit (gm_ow 151) 5 1 false (gm_hh 151) = some (some 21) := by decide +kernel
theorem hl_151 {x0 x1 : Int} (k1 : (1 ≤ 1 ∧ 1 ≤ n) ∧ (K 1).1 = 0 + 4) (h : gm_Wp X LX d bc bs 152 0 (gm_ent 152 [gm_vr 1, gm_vi x0, gm_vi x1]) [] n K R M (hQ [(3, 1), (0, 2), (1, 3)] Q)) : gm_Wp X LX (d + 1) bc bs 151 0 (gm_ent 151 [gm_vr 1, gm_vi x0, gm_vi x1, gm_vr 245]) [] n K R M Q := by
  refine gm_sz (gm_p_load (pc := 0) (i := .aload_n 3) (sr := 2) (j := 3) (by decide +kernel) rfl rfl rfl) ?_
  refine gm_sz (gm_p_const (pc := 1) (i := .iconst 0) (v := gm_vi 0) (by decide +kernel) (by decide +kernel)) ?_
  refine gm_sz (gm_p_load (pc := 2) (i := .aload_n 0) (sr := 2) (j := 0) (by decide +kernel) rfl rfl rfl) ?_
  refine gm_sz (gm_p_load (pc := 3) (i := .iload_n 1) (sr := 0) (j := 1) (by decide +kernel) rfl rfl rfl) ?_
  refine gm_sz (gm_p_load (pc := 4) (i := .iload_n 2) (sr := 0) (j := 2) (by decide +kernel) rfl rfl rfl) ?_
  refine gm_c_virtH (k := 1) (ci := 0) (mj := 152) (ix := 48) (pc := 5) (as := [gm_vi x0, gm_vi x1]) (st := [gm_vi 0, gm_vr 245]) (d' := d) (bc' := bc) (bs' := bs) (by decide +kernel) (by decide +kernel) (by decide +kernel) k1.1 k1.2 (by decide) (by decide +kernel) (show 2 = gm_na 152 by decide +kernel) (fun v hv => by simp only [List.mem_cons, List.not_mem_nil, or_false] at hv; rcases hv with rfl | rfl <;> simp [gm_sort]) (show 2 + 1 ≤ gm_ml 152 by decide +kernel) (Nat.le_of_ble_eq_true rfl) (Nat.le_refl _) (Nat.le_refl _) (Nat.le_refl _) ?_
  refine gm_Wp_mono (fun o n1 K1 R1 M1 hq => ?_) h
  obtain ⟨⟨hn, hK⟩, hq⟩ := hq
  rcases hq with ⟨v, rfl, hq⟩ | ⟨i, hi, rfl, hq⟩
  · show gm_Wp X LX (d + 1) _ _ 151 8 (gm_ent 151 [gm_vr 1, gm_vi x0, gm_vi x1, gm_vr 245]) [gm_vi v, gm_vi 0, gm_vr 245] n1 K1 R1 M1 Q
    refine gm_sz (gm_p_i2l (pc := 8) (by decide +kernel)) ?_
    refine gm_sz (gm_p_last (pc := 9) (k := 245) (by decide +kernel) ⟨by decide, hn⟩ (by rw [hK]) (by rw [hK]; decide)) ?_
    refine gm_sz (gm_p_goto (pc := 10) (off := 15) (by decide +kernel) (by decide)) ?_
    refine gm_sz (gm_p_const (pc := 25) (i := .iconst 0) (v := gm_vi 0) (by decide +kernel) (by decide +kernel)) ?_
    exact gm_r_int (pc := 26) (by decide +kernel) (Or.inl (by decide +kernel)) hq
  · simp only [List.mem_cons, List.not_mem_nil, or_false] at hi
    rcases hi with rfl | rfl | rfl
    · show (match gm_hit (gm_ow 151) 5 3 false (gm_hh 151) with
      | some (some h) => gm_Wp X LX (d + 1) _ _ 151 h (gm_ent 151 [gm_vr 1, gm_vi x0, gm_vi x1, gm_vr 245]) [gm_vo 4000] n1 K1 R1 M1 Q
      | some none => Q (.inr 3) n1 K1 R1 M1
      | none => False)
      rw [hl_151_3]
      show gm_Wp X LX (d + 1) _ _ 151 13 (gm_ent 151 [gm_vr 1, gm_vi x0, gm_vi x1, gm_vr 245]) [gm_vo 4000] n1 K1 R1 M1 Q
      refine gm_sz (gm_p_stor (pc := 13) (i := .astore 4) (sr := 2) (j := 4) (by decide +kernel) rfl (show 5 ≤ _ from Nat.le_of_ble_eq_true rfl) rfl) ?_
      refine gm_sz (gm_p_const (pc := 15) (i := .iconst 1) (v := gm_vi 1) (by decide +kernel) (by decide +kernel)) ?_
      exact gm_r_int (pc := 16) (by decide +kernel) (Or.inl (by decide +kernel)) hq
    · show (match gm_hit (gm_ow 151) 5 0 false (gm_hh 151) with
      | some (some h) => gm_Wp X LX (d + 1) _ _ 151 h (gm_ent 151 [gm_vr 1, gm_vi x0, gm_vi x1, gm_vr 245]) [gm_vo 4000] n1 K1 R1 M1 Q
      | some none => Q (.inr 0) n1 K1 R1 M1
      | none => False)
      rw [hl_151_0]
      show gm_Wp X LX (d + 1) _ _ 151 17 (gm_ent 151 [gm_vr 1, gm_vi x0, gm_vi x1, gm_vr 245]) [gm_vo 4000] n1 K1 R1 M1 Q
      refine gm_sz (gm_p_stor (pc := 17) (i := .astore 4) (sr := 2) (j := 4) (by decide +kernel) rfl (show 5 ≤ _ from Nat.le_of_ble_eq_true rfl) rfl) ?_
      refine gm_sz (gm_p_const (pc := 19) (i := .iconst 2) (v := gm_vi 2) (by decide +kernel) (by decide +kernel)) ?_
      exact gm_r_int (pc := 20) (by decide +kernel) (Or.inl (by decide +kernel)) hq
    · show (match gm_hit (gm_ow 151) 5 1 false (gm_hh 151) with
      | some (some h) => gm_Wp X LX (d + 1) _ _ 151 h (gm_ent 151 [gm_vr 1, gm_vi x0, gm_vi x1, gm_vr 245]) [gm_vo 4000] n1 K1 R1 M1 Q
      | some none => Q (.inr 1) n1 K1 R1 M1
      | none => False)
      rw [hl_151_1]
      show gm_Wp X LX (d + 1) _ _ 151 21 (gm_ent 151 [gm_vr 1, gm_vi x0, gm_vi x1, gm_vr 245]) [gm_vo 4000] n1 K1 R1 M1 Q
      refine gm_sz (gm_p_stor (pc := 21) (i := .astore 4) (sr := 2) (j := 4) (by decide +kernel) rfl (show 5 ≤ _ from Nat.le_of_ble_eq_true rfl) rfl) ?_
      refine gm_sz (gm_p_const (pc := 23) (i := .iconst 3) (v := gm_vi 3) (by decide +kernel) (by decide +kernel)) ?_
      exact gm_r_int (pc := 24) (by decide +kernel) (Or.inl (by decide +kernel)) hq
theorem hl_155_3 : gm_hit (gm_ow 155) 5 3 false (gm_hh 155) = some (some 13) := by decide +kernel
theorem hl_155 {x0 x1 : Int} (k1 : (1 ≤ 1 ∧ 1 ≤ n) ∧ (K 1).1 = 0 + 4) (h : gm_Wp X LX d bc bs 156 0 (gm_ent 156 [gm_vr 1, gm_vi x0, gm_vi x1]) [] n K R M (hQ [(3, 1)] Q)) : gm_Wp X LX (d + 1) bc bs 155 0 (gm_ent 155 [gm_vr 1, gm_vi x0, gm_vi x1, gm_vr 245]) [] n K R M Q := by
  refine gm_sz (gm_p_load (pc := 0) (i := .aload_n 3) (sr := 2) (j := 3) (by decide +kernel) rfl rfl rfl) ?_
  refine gm_sz (gm_p_const (pc := 1) (i := .iconst 0) (v := gm_vi 0) (by decide +kernel) (by decide +kernel)) ?_
  refine gm_sz (gm_p_load (pc := 2) (i := .aload_n 0) (sr := 2) (j := 0) (by decide +kernel) rfl rfl rfl) ?_
  refine gm_sz (gm_p_load (pc := 3) (i := .iload_n 1) (sr := 0) (j := 1) (by decide +kernel) rfl rfl rfl) ?_
  refine gm_sz (gm_p_load (pc := 4) (i := .iload_n 2) (sr := 0) (j := 2) (by decide +kernel) rfl rfl rfl) ?_
  refine gm_c_virtH (k := 1) (ci := 0) (mj := 156) (ix := 51) (pc := 5) (as := [gm_vi x0, gm_vi x1]) (st := [gm_vi 0, gm_vr 245]) (d' := d) (bc' := bc) (bs' := bs) (by decide +kernel) (by decide +kernel) (by decide +kernel) k1.1 k1.2 (by decide) (by decide +kernel) (show 2 = gm_na 156 by decide +kernel) (fun v hv => by simp only [List.mem_cons, List.not_mem_nil, or_false] at hv; rcases hv with rfl | rfl <;> simp [gm_sort]) (show 2 + 1 ≤ gm_ml 156 by decide +kernel) (Nat.le_of_ble_eq_true rfl) (Nat.le_refl _) (Nat.le_refl _) (Nat.le_refl _) ?_
  refine gm_Wp_mono (fun o n1 K1 R1 M1 hq => ?_) h
  obtain ⟨⟨hn, hK⟩, hq⟩ := hq
  rcases hq with ⟨v, rfl, hq⟩ | ⟨i, hi, rfl, hq⟩
  · show gm_Wp X LX (d + 1) _ _ 155 8 (gm_ent 155 [gm_vr 1, gm_vi x0, gm_vi x1, gm_vr 245]) [gm_vi v, gm_vi 0, gm_vr 245] n1 K1 R1 M1 Q
    refine gm_sz (gm_p_i2l (pc := 8) (by decide +kernel)) ?_
    refine gm_sz (gm_p_last (pc := 9) (k := 245) (by decide +kernel) ⟨by decide, hn⟩ (by rw [hK]) (by rw [hK]; decide)) ?_
    refine gm_sz (gm_p_goto (pc := 10) (off := 7) (by decide +kernel) (by decide)) ?_
    refine gm_sz (gm_p_const (pc := 17) (i := .iconst 0) (v := gm_vi 0) (by decide +kernel) (by decide +kernel)) ?_
    exact gm_r_int (pc := 18) (by decide +kernel) (Or.inl (by decide +kernel)) hq
  · simp only [List.mem_cons, List.not_mem_nil, or_false] at hi
    rcases hi with rfl
    · show (match gm_hit (gm_ow 155) 5 3 false (gm_hh 155) with
      | some (some h) => gm_Wp X LX (d + 1) _ _ 155 h (gm_ent 155 [gm_vr 1, gm_vi x0, gm_vi x1, gm_vr 245]) [gm_vo 4000] n1 K1 R1 M1 Q
      | some none => Q (.inr 3) n1 K1 R1 M1
      | none => False)
      rw [hl_155_3]
      show gm_Wp X LX (d + 1) _ _ 155 13 (gm_ent 155 [gm_vr 1, gm_vi x0, gm_vi x1, gm_vr 245]) [gm_vo 4000] n1 K1 R1 M1 Q
      refine gm_sz (gm_p_stor (pc := 13) (i := .astore 4) (sr := 2) (j := 4) (by decide +kernel) rfl (show 5 ≤ _ from Nat.le_of_ble_eq_true rfl) rfl) ?_
      refine gm_sz (gm_p_const (pc := 15) (i := .iconst 1) (v := gm_vi 1) (by decide +kernel) (by decide +kernel)) ?_
      exact gm_r_int (pc := 16) (by decide +kernel) (Or.inl (by decide +kernel)) hq
theorem hl_157_3 : gm_hit (gm_ow 157) 4 3 false (gm_hh 157) = some (some 12) := by decide +kernel
theorem hl_157_2 : gm_hit (gm_ow 157) 4 2 false (gm_hh 157) = some (some 15) := by decide +kernel
theorem hl_157 {x0 : Int} (k1 : (1 ≤ 1 ∧ 1 ≤ n) ∧ (K 1).1 = 0 + 4) (h : gm_Wp X LX d bc bs 158 0 (gm_ent 158 [gm_vr 1, gm_vi x0]) [] n K R M (hQ [(3, 1), (2, 2)] Q)) : gm_Wp X LX (d + 1) bc bs 157 0 (gm_ent 157 [gm_vr 1, gm_vi x0, gm_vr 245]) [] n K R M Q := by
  refine gm_sz (gm_p_load (pc := 0) (i := .aload_n 2) (sr := 2) (j := 2) (by decide +kernel) rfl rfl rfl) ?_
  refine gm_sz (gm_p_const (pc := 1) (i := .iconst 0) (v := gm_vi 0) (by decide +kernel) (by decide +kernel)) ?_
  refine gm_sz (gm_p_load (pc := 2) (i := .aload_n 0) (sr := 2) (j := 0) (by decide +kernel) rfl rfl rfl) ?_
  refine gm_sz (gm_p_load (pc := 3) (i := .iload_n 1) (sr := 0) (j := 1) (by decide +kernel) rfl rfl rfl) ?_
  refine gm_c_virtH (k := 1) (ci := 0) (mj := 158) (ix := 54) (pc := 4) (as := [gm_vi x0]) (st := [gm_vi 0, gm_vr 245]) (d' := d) (bc' := bc) (bs' := bs) (by decide +kernel) (by decide +kernel) (by decide +kernel) k1.1 k1.2 (by decide) (by decide +kernel) (show 1 = gm_na 158 by decide +kernel) (fw_c1 (by simp [gm_sort])) (show 1 + 1 ≤ gm_ml 158 by decide +kernel) (Nat.le_of_ble_eq_true rfl) (Nat.le_refl _) (Nat.le_refl _) (Nat.le_refl _) ?_
  refine gm_Wp_mono (fun o n1 K1 R1 M1 hq => ?_) h
  obtain ⟨⟨hn, hK⟩, hq⟩ := hq
  rcases hq with ⟨v, rfl, hq⟩ | ⟨i, hi, rfl, hq⟩
  · show gm_Wp X LX (d + 1) _ _ 157 7 (gm_ent 157 [gm_vr 1, gm_vi x0, gm_vr 245]) [gm_vi v, gm_vi 0, gm_vr 245] n1 K1 R1 M1 Q
    refine gm_sz (gm_p_i2l (pc := 7) (by decide +kernel)) ?_
    refine gm_sz (gm_p_last (pc := 8) (k := 245) (by decide +kernel) ⟨by decide, hn⟩ (by rw [hK]) (by rw [hK]; decide)) ?_
    refine gm_sz (gm_p_goto (pc := 9) (off := 9) (by decide +kernel) (by decide)) ?_
    refine gm_sz (gm_p_const (pc := 18) (i := .iconst 0) (v := gm_vi 0) (by decide +kernel) (by decide +kernel)) ?_
    exact gm_r_int (pc := 19) (by decide +kernel) (Or.inl (by decide +kernel)) hq
  · simp only [List.mem_cons, List.not_mem_nil, or_false] at hi
    rcases hi with rfl | rfl
    · show (match gm_hit (gm_ow 157) 4 3 false (gm_hh 157) with
      | some (some h) => gm_Wp X LX (d + 1) _ _ 157 h (gm_ent 157 [gm_vr 1, gm_vi x0, gm_vr 245]) [gm_vo 4000] n1 K1 R1 M1 Q
      | some none => Q (.inr 3) n1 K1 R1 M1
      | none => False)
      rw [hl_157_3]
      show gm_Wp X LX (d + 1) _ _ 157 12 (gm_ent 157 [gm_vr 1, gm_vi x0, gm_vr 245]) [gm_vo 4000] n1 K1 R1 M1 Q
      refine gm_sz (gm_p_stor (pc := 12) (i := .astore_n 3) (sr := 2) (j := 3) (by decide +kernel) rfl (show 4 ≤ _ from Nat.le_of_ble_eq_true rfl) rfl) ?_
      refine gm_sz (gm_p_const (pc := 13) (i := .iconst 1) (v := gm_vi 1) (by decide +kernel) (by decide +kernel)) ?_
      exact gm_r_int (pc := 14) (by decide +kernel) (Or.inl (by decide +kernel)) hq
    · show (match gm_hit (gm_ow 157) 4 2 false (gm_hh 157) with
      | some (some h) => gm_Wp X LX (d + 1) _ _ 157 h (gm_ent 157 [gm_vr 1, gm_vi x0, gm_vr 245]) [gm_vo 4000] n1 K1 R1 M1 Q
      | some none => Q (.inr 2) n1 K1 R1 M1
      | none => False)
      rw [hl_157_2]
      show gm_Wp X LX (d + 1) _ _ 157 15 (gm_ent 157 [gm_vr 1, gm_vi x0, gm_vr 245]) [gm_vo 4000] n1 K1 R1 M1 Q
      refine gm_sz (gm_p_stor (pc := 15) (i := .astore_n 3) (sr := 2) (j := 3) (by decide +kernel) rfl (show 4 ≤ _ from Nat.le_of_ble_eq_true rfl) rfl) ?_
      refine gm_sz (gm_p_const (pc := 16) (i := .iconst 2) (v := gm_vi 2) (by decide +kernel) (by decide +kernel)) ?_
      exact gm_r_int (pc := 17) (by decide +kernel) (Or.inl (by decide +kernel)) hq
theorem hl_160_0 : gm_hit (gm_ow 160) 4 0 false (gm_hh 160) = some (some 12) := by decide +kernel
theorem hl_160 {x0 : Int} (k1 : (1 ≤ 1 ∧ 1 ≤ n) ∧ (K 1).1 = 0 + 4) (h : gm_Wp X LX d bc bs 161 0 (gm_ent 161 [gm_vr 1, gm_vi x0]) [] n K R M (hQ [(0, 1)] Q)) : gm_Wp X LX (d + 1) bc bs 160 0 (gm_ent 160 [gm_vr 1, gm_vi x0, gm_vr 245]) [] n K R M Q := by
  refine gm_sz (gm_p_load (pc := 0) (i := .aload_n 2) (sr := 2) (j := 2) (by decide +kernel) rfl rfl rfl) ?_
  refine gm_sz (gm_p_const (pc := 1) (i := .iconst 0) (v := gm_vi 0) (by decide +kernel) (by decide +kernel)) ?_
  refine gm_sz (gm_p_load (pc := 2) (i := .aload_n 0) (sr := 2) (j := 0) (by decide +kernel) rfl rfl rfl) ?_
  refine gm_sz (gm_p_load (pc := 3) (i := .iload_n 1) (sr := 0) (j := 1) (by decide +kernel) rfl rfl rfl) ?_
  refine gm_c_virtH (k := 1) (ci := 0) (mj := 161) (ix := 59) (pc := 4) (as := [gm_vi x0]) (st := [gm_vi 0, gm_vr 245]) (d' := d) (bc' := bc) (bs' := bs) (by decide +kernel) (by decide +kernel) (by decide +kernel) k1.1 k1.2 (by decide) (by decide +kernel) (show 1 = gm_na 161 by decide +kernel) (fw_c1 (by simp [gm_sort])) (show 1 + 1 ≤ gm_ml 161 by decide +kernel) (Nat.le_of_ble_eq_true rfl) (Nat.le_refl _) (Nat.le_refl _) (Nat.le_refl _) ?_
  refine gm_Wp_mono (fun o n1 K1 R1 M1 hq => ?_) h
  obtain ⟨⟨hn, hK⟩, hq⟩ := hq
  rcases hq with ⟨v, rfl, hq⟩ | ⟨i, hi, rfl, hq⟩
  · show gm_Wp X LX (d + 1) _ _ 160 7 (gm_ent 160 [gm_vr 1, gm_vi x0, gm_vr 245]) [gm_vi v, gm_vi 0, gm_vr 245] n1 K1 R1 M1 Q
    refine gm_sz (gm_p_i2l (pc := 7) (by decide +kernel)) ?_
    refine gm_sz (gm_p_last (pc := 8) (k := 245) (by decide +kernel) ⟨by decide, hn⟩ (by rw [hK]) (by rw [hK]; decide)) ?_
    refine gm_sz (gm_p_goto (pc := 9) (off := 6) (by decide +kernel) (by decide)) ?_
    refine gm_sz (gm_p_const (pc := 15) (i := .iconst 0) (v := gm_vi 0) (by decide +kernel) (by decide +kernel)) ?_
    exact gm_r_int (pc := 16) (by decide +kernel) (Or.inl (by decide +kernel)) hq
  · simp only [List.mem_cons, List.not_mem_nil, or_false] at hi
    rcases hi with rfl
    · show (match gm_hit (gm_ow 160) 4 0 false (gm_hh 160) with
      | some (some h) => gm_Wp X LX (d + 1) _ _ 160 h (gm_ent 160 [gm_vr 1, gm_vi x0, gm_vr 245]) [gm_vo 4000] n1 K1 R1 M1 Q
      | some none => Q (.inr 0) n1 K1 R1 M1
      | none => False)
      rw [hl_160_0]
      show gm_Wp X LX (d + 1) _ _ 160 12 (gm_ent 160 [gm_vr 1, gm_vi x0, gm_vr 245]) [gm_vo 4000] n1 K1 R1 M1 Q
      refine gm_sz (gm_p_stor (pc := 12) (i := .astore_n 3) (sr := 2) (j := 3) (by decide +kernel) rfl (show 4 ≤ _ from Nat.le_of_ble_eq_true rfl) rfl) ?_
      refine gm_sz (gm_p_const (pc := 13) (i := .iconst 1) (v := gm_vi 1) (by decide +kernel) (by decide +kernel)) ?_
      exact gm_r_int (pc := 14) (by decide +kernel) (Or.inl (by decide +kernel)) hq
theorem hl_166_3 : gm_hit (gm_ow 166) 9 3 false (gm_hh 166) = some (some 17) := by decide +kernel
theorem hl_166_0 : gm_hit (gm_ow 166) 9 0 false (gm_hh 166) = some (some 21) := by decide +kernel
theorem hl_166_4 : gm_hit (gm_ow 166) 9 4 false (gm_hh 166) = some (some 25) := by decide +kernel
theorem hl_166 {x0 x1 x2 x3 : Int} (k1 : (1 ≤ 1 ∧ 1 ≤ n) ∧ (K 1).1 = 0 + 4) (h : gm_Wp X LX d bc bs 167 0 (gm_ent 167 [gm_vr 1, gm_vi x0, gm_vi x1, gm_vi x2, gm_vi x3]) [] n K R M (hQ [(3, 1), (0, 2), (4, 3)] Q)) : gm_Wp X LX (d + 1) bc bs 166 0 (gm_ent 166 [gm_vr 1, gm_vi x0, gm_vi x1, gm_vi x2, gm_vi x3, gm_vr 245]) [] n K R M Q := by
  refine gm_sz (gm_p_load (pc := 0) (i := .aload 5) (sr := 2) (j := 5) (by decide +kernel) rfl rfl rfl) ?_
  refine gm_sz (gm_p_const (pc := 2) (i := .iconst 0) (v := gm_vi 0) (by decide +kernel) (by decide +kernel)) ?_
  refine gm_sz (gm_p_load (pc := 3) (i := .aload_n 0) (sr := 2) (j := 0) (by decide +kernel) rfl rfl rfl) ?_
  refine gm_sz (gm_p_load (pc := 4) (i := .iload_n 1) (sr := 0) (j := 1) (by decide +kernel) rfl rfl rfl) ?_
  refine gm_sz (gm_p_load (pc := 5) (i := .iload_n 2) (sr := 0) (j := 2) (by decide +kernel) rfl rfl rfl) ?_
  refine gm_sz (gm_p_load (pc := 6) (i := .iload_n 3) (sr := 0) (j := 3) (by decide +kernel) rfl rfl rfl) ?_
  refine gm_sz (gm_p_load (pc := 7) (i := .iload 4) (sr := 0) (j := 4) (by decide +kernel) rfl rfl rfl) ?_
  refine gm_c_virtH (k := 1) (ci := 0) (mj := 167) (ix := 62) (pc := 9) (as := [gm_vi x0, gm_vi x1, gm_vi x2, gm_vi x3]) (st := [gm_vi 0, gm_vr 245]) (d' := d) (bc' := bc) (bs' := bs) (by decide +kernel) (by decide +kernel) (by decide +kernel) k1.1 k1.2 (by decide) (by decide +kernel) (show 4 = gm_na 167 by decide +kernel) (fun v hv => by simp only [List.mem_cons, List.not_mem_nil, or_false] at hv; rcases hv with rfl | rfl | rfl | rfl <;> simp [gm_sort]) (show 4 + 1 ≤ gm_ml 167 by decide +kernel) (Nat.le_of_ble_eq_true rfl) (Nat.le_refl _) (Nat.le_refl _) (Nat.le_refl _) ?_
  refine gm_Wp_mono (fun o n1 K1 R1 M1 hq => ?_) h
  obtain ⟨⟨hn, hK⟩, hq⟩ := hq
  rcases hq with ⟨v, rfl, hq⟩ | ⟨i, hi, rfl, hq⟩
  · show gm_Wp X LX (d + 1) _ _ 166 12 (gm_ent 166 [gm_vr 1, gm_vi x0, gm_vi x1, gm_vi x2, gm_vi x3, gm_vr 245]) [gm_vi v, gm_vi 0, gm_vr 245] n1 K1 R1 M1 Q
    refine gm_sz (gm_p_i2l (pc := 12) (by decide +kernel)) ?_
    refine gm_sz (gm_p_last (pc := 13) (k := 245) (by decide +kernel) ⟨by decide, hn⟩ (by rw [hK]) (by rw [hK]; decide)) ?_
    refine gm_sz (gm_p_goto (pc := 14) (off := 15) (by decide +kernel) (by decide)) ?_
    refine gm_sz (gm_p_const (pc := 29) (i := .iconst 0) (v := gm_vi 0) (by decide +kernel) (by decide +kernel)) ?_
    exact gm_r_int (pc := 30) (by decide +kernel) (Or.inl (by decide +kernel)) hq
  · simp only [List.mem_cons, List.not_mem_nil, or_false] at hi
    rcases hi with rfl | rfl | rfl
    · show (match gm_hit (gm_ow 166) 9 3 false (gm_hh 166) with
      | some (some h) => gm_Wp X LX (d + 1) _ _ 166 h (gm_ent 166 [gm_vr 1, gm_vi x0, gm_vi x1, gm_vi x2, gm_vi x3, gm_vr 245]) [gm_vo 4000] n1 K1 R1 M1 Q
      | some none => Q (.inr 3) n1 K1 R1 M1
      | none => False)
      rw [hl_166_3]
      show gm_Wp X LX (d + 1) _ _ 166 17 (gm_ent 166 [gm_vr 1, gm_vi x0, gm_vi x1, gm_vi x2, gm_vi x3, gm_vr 245]) [gm_vo 4000] n1 K1 R1 M1 Q
      refine gm_sz (gm_p_stor (pc := 17) (i := .astore 6) (sr := 2) (j := 6) (by decide +kernel) rfl (show 7 ≤ _ from Nat.le_of_ble_eq_true rfl) rfl) ?_
      refine gm_sz (gm_p_const (pc := 19) (i := .iconst 1) (v := gm_vi 1) (by decide +kernel) (by decide +kernel)) ?_
      exact gm_r_int (pc := 20) (by decide +kernel) (Or.inl (by decide +kernel)) hq
    · show (match gm_hit (gm_ow 166) 9 0 false (gm_hh 166) with
      | some (some h) => gm_Wp X LX (d + 1) _ _ 166 h (gm_ent 166 [gm_vr 1, gm_vi x0, gm_vi x1, gm_vi x2, gm_vi x3, gm_vr 245]) [gm_vo 4000] n1 K1 R1 M1 Q
      | some none => Q (.inr 0) n1 K1 R1 M1
      | none => False)
      rw [hl_166_0]
      show gm_Wp X LX (d + 1) _ _ 166 21 (gm_ent 166 [gm_vr 1, gm_vi x0, gm_vi x1, gm_vi x2, gm_vi x3, gm_vr 245]) [gm_vo 4000] n1 K1 R1 M1 Q
      refine gm_sz (gm_p_stor (pc := 21) (i := .astore 6) (sr := 2) (j := 6) (by decide +kernel) rfl (show 7 ≤ _ from Nat.le_of_ble_eq_true rfl) rfl) ?_
      refine gm_sz (gm_p_const (pc := 23) (i := .iconst 2) (v := gm_vi 2) (by decide +kernel) (by decide +kernel)) ?_
      exact gm_r_int (pc := 24) (by decide +kernel) (Or.inl (by decide +kernel)) hq
    · show (match gm_hit (gm_ow 166) 9 4 false (gm_hh 166) with
      | some (some h) => gm_Wp X LX (d + 1) _ _ 166 h (gm_ent 166 [gm_vr 1, gm_vi x0, gm_vi x1, gm_vi x2, gm_vi x3, gm_vr 245]) [gm_vo 4000] n1 K1 R1 M1 Q
      | some none => Q (.inr 4) n1 K1 R1 M1
      | none => False)
      rw [hl_166_4]
      show gm_Wp X LX (d + 1) _ _ 166 25 (gm_ent 166 [gm_vr 1, gm_vi x0, gm_vi x1, gm_vi x2, gm_vi x3, gm_vr 245]) [gm_vo 4000] n1 K1 R1 M1 Q
      refine gm_sz (gm_p_stor (pc := 25) (i := .astore 6) (sr := 2) (j := 6) (by decide +kernel) rfl (show 7 ≤ _ from Nat.le_of_ble_eq_true rfl) rfl) ?_
      refine gm_sz (gm_p_const (pc := 27) (i := .iconst 3) (v := gm_vi 3) (by decide +kernel) (by decide +kernel)) ?_
      exact gm_r_int (pc := 28) (by decide +kernel) (Or.inl (by decide +kernel)) hq
theorem hl_168_3 : gm_hit (gm_ow 168) 5 3 false (gm_hh 168) = some (some 13) := by decide +kernel
theorem hl_168_0 : gm_hit (gm_ow 168) 5 0 false (gm_hh 168) = some (some 17) := by decide +kernel
theorem hl_168 {x0 x1 : Int} (k1 : (1 ≤ 1 ∧ 1 ≤ n) ∧ (K 1).1 = 0 + 4) (h : gm_Wp X LX d bc bs 169 0 (gm_ent 169 [gm_vr 1, gm_vi x0, gm_vi x1]) [] n K R M (hQ [(3, 1), (0, 2)] Q)) : gm_Wp X LX (d + 1) bc bs 168 0 (gm_ent 168 [gm_vr 1, gm_vi x0, gm_vi x1, gm_vr 245]) [] n K R M Q := by
  refine gm_sz (gm_p_load (pc := 0) (i := .aload_n 3) (sr := 2) (j := 3) (by decide +kernel) rfl rfl rfl) ?_
  refine gm_sz (gm_p_const (pc := 1) (i := .iconst 0) (v := gm_vi 0) (by decide +kernel) (by decide +kernel)) ?_
  refine gm_sz (gm_p_load (pc := 2) (i := .aload_n 0) (sr := 2) (j := 0) (by decide +kernel) rfl rfl rfl) ?_
  refine gm_sz (gm_p_load (pc := 3) (i := .iload_n 1) (sr := 0) (j := 1) (by decide +kernel) rfl rfl rfl) ?_
  refine gm_sz (gm_p_load (pc := 4) (i := .iload_n 2) (sr := 0) (j := 2) (by decide +kernel) rfl rfl rfl) ?_
  refine gm_c_virtH (k := 1) (ci := 0) (mj := 169) (ix := 66) (pc := 5) (as := [gm_vi x0, gm_vi x1]) (st := [gm_vi 0, gm_vr 245]) (d' := d) (bc' := bc) (bs' := bs) (by decide +kernel) (by decide +kernel) (by decide +kernel) k1.1 k1.2 (by decide) (by decide +kernel) (show 2 = gm_na 169 by decide +kernel) (fun v hv => by simp only [List.mem_cons, List.not_mem_nil, or_false] at hv; rcases hv with rfl | rfl <;> simp [gm_sort]) (show 2 + 1 ≤ gm_ml 169 by decide +kernel) (Nat.le_of_ble_eq_true rfl) (Nat.le_refl _) (Nat.le_refl _) (Nat.le_refl _) ?_
  refine gm_Wp_mono (fun o n1 K1 R1 M1 hq => ?_) h
  obtain ⟨⟨hn, hK⟩, hq⟩ := hq
  rcases hq with ⟨v, rfl, hq⟩ | ⟨i, hi, rfl, hq⟩
  · show gm_Wp X LX (d + 1) _ _ 168 8 (gm_ent 168 [gm_vr 1, gm_vi x0, gm_vi x1, gm_vr 245]) [gm_vi v, gm_vi 0, gm_vr 245] n1 K1 R1 M1 Q
    refine gm_sz (gm_p_i2l (pc := 8) (by decide +kernel)) ?_
    refine gm_sz (gm_p_last (pc := 9) (k := 245) (by decide +kernel) ⟨by decide, hn⟩ (by rw [hK]) (by rw [hK]; decide)) ?_
    refine gm_sz (gm_p_goto (pc := 10) (off := 11) (by decide +kernel) (by decide)) ?_
    refine gm_sz (gm_p_const (pc := 21) (i := .iconst 0) (v := gm_vi 0) (by decide +kernel) (by decide +kernel)) ?_
    exact gm_r_int (pc := 22) (by decide +kernel) (Or.inl (by decide +kernel)) hq
  · simp only [List.mem_cons, List.not_mem_nil, or_false] at hi
    rcases hi with rfl | rfl
    · show (match gm_hit (gm_ow 168) 5 3 false (gm_hh 168) with
      | some (some h) => gm_Wp X LX (d + 1) _ _ 168 h (gm_ent 168 [gm_vr 1, gm_vi x0, gm_vi x1, gm_vr 245]) [gm_vo 4000] n1 K1 R1 M1 Q
      | some none => Q (.inr 3) n1 K1 R1 M1
      | none => False)
      rw [hl_168_3]
      show gm_Wp X LX (d + 1) _ _ 168 13 (gm_ent 168 [gm_vr 1, gm_vi x0, gm_vi x1, gm_vr 245]) [gm_vo 4000] n1 K1 R1 M1 Q
      refine gm_sz (gm_p_stor (pc := 13) (i := .astore 4) (sr := 2) (j := 4) (by decide +kernel) rfl (show 5 ≤ _ from Nat.le_of_ble_eq_true rfl) rfl) ?_
      refine gm_sz (gm_p_const (pc := 15) (i := .iconst 1) (v := gm_vi 1) (by decide +kernel) (by decide +kernel)) ?_
      exact gm_r_int (pc := 16) (by decide +kernel) (Or.inl (by decide +kernel)) hq
    · show (match gm_hit (gm_ow 168) 5 0 false (gm_hh 168) with
      | some (some h) => gm_Wp X LX (d + 1) _ _ 168 h (gm_ent 168 [gm_vr 1, gm_vi x0, gm_vi x1, gm_vr 245]) [gm_vo 4000] n1 K1 R1 M1 Q
      | some none => Q (.inr 0) n1 K1 R1 M1
      | none => False)
      rw [hl_168_0]
      show gm_Wp X LX (d + 1) _ _ 168 17 (gm_ent 168 [gm_vr 1, gm_vi x0, gm_vi x1, gm_vr 245]) [gm_vo 4000] n1 K1 R1 M1 Q
      refine gm_sz (gm_p_stor (pc := 17) (i := .astore 4) (sr := 2) (j := 4) (by decide +kernel) rfl (show 5 ≤ _ from Nat.le_of_ble_eq_true rfl) rfl) ?_
      refine gm_sz (gm_p_const (pc := 19) (i := .iconst 2) (v := gm_vi 2) (by decide +kernel) (by decide +kernel)) ?_
      exact gm_r_int (pc := 20) (by decide +kernel) (Or.inl (by decide +kernel)) hq
theorem hl_171_3 : gm_hit (gm_ow 171) 5 3 false (gm_hh 171) = some (some 13) := by decide +kernel
theorem hl_171_0 : gm_hit (gm_ow 171) 5 0 false (gm_hh 171) = some (some 17) := by decide +kernel
theorem hl_171 {x0 x1 : Int} (k1 : (1 ≤ 1 ∧ 1 ≤ n) ∧ (K 1).1 = 0 + 4) (h : gm_Wp X LX d bc bs 172 0 (gm_ent 172 [gm_vr 1, gm_vi x0, gm_vi x1]) [] n K R M (hQ [(3, 1), (0, 2)] Q)) : gm_Wp X LX (d + 1) bc bs 171 0 (gm_ent 171 [gm_vr 1, gm_vi x0, gm_vi x1, gm_vr 245]) [] n K R M Q := by
  refine gm_sz (gm_p_load (pc := 0) (i := .aload_n 3) (sr := 2) (j := 3) (by decide +kernel) rfl rfl rfl) ?_
  refine gm_sz (gm_p_const (pc := 1) (i := .iconst 0) (v := gm_vi 0) (by decide +kernel) (by decide +kernel)) ?_
  refine gm_sz (gm_p_load (pc := 2) (i := .aload_n 0) (sr := 2) (j := 0) (by decide +kernel) rfl rfl rfl) ?_
  refine gm_sz (gm_p_load (pc := 3) (i := .iload_n 1) (sr := 0) (j := 1) (by decide +kernel) rfl rfl rfl) ?_
  refine gm_sz (gm_p_load (pc := 4) (i := .iload_n 2) (sr := 0) (j := 2) (by decide +kernel) rfl rfl rfl) ?_
  refine gm_c_virtH (k := 1) (ci := 0) (mj := 172) (ix := 69) (pc := 5) (as := [gm_vi x0, gm_vi x1]) (st := [gm_vi 0, gm_vr 245]) (d' := d) (bc' := bc) (bs' := bs) (by decide +kernel) (by decide +kernel) (by decide +kernel) k1.1 k1.2 (by decide) (by decide +kernel) (show 2 = gm_na 172 by decide +kernel) (fun v hv => by simp only [List.mem_cons, List.not_mem_nil, or_false] at hv; rcases hv with rfl | rfl <;> simp [gm_sort]) (show 2 + 1 ≤ gm_ml 172 by decide +kernel) (Nat.le_of_ble_eq_true rfl) (Nat.le_refl _) (Nat.le_refl _) (Nat.le_refl _) ?_
  refine gm_Wp_mono (fun o n1 K1 R1 M1 hq => ?_) h
  obtain ⟨⟨hn, hK⟩, hq⟩ := hq
  rcases hq with ⟨v, rfl, hq⟩ | ⟨i, hi, rfl, hq⟩
  · show gm_Wp X LX (d + 1) _ _ 171 8 (gm_ent 171 [gm_vr 1, gm_vi x0, gm_vi x1, gm_vr 245]) [gm_vi v, gm_vi 0, gm_vr 245] n1 K1 R1 M1 Q
    refine gm_sz (gm_p_i2l (pc := 8) (by decide +kernel)) ?_
    refine gm_sz (gm_p_last (pc := 9) (k := 245) (by decide +kernel) ⟨by decide, hn⟩ (by rw [hK]) (by rw [hK]; decide)) ?_
    refine gm_sz (gm_p_goto (pc := 10) (off := 11) (by decide +kernel) (by decide)) ?_
    refine gm_sz (gm_p_const (pc := 21) (i := .iconst 0) (v := gm_vi 0) (by decide +kernel) (by decide +kernel)) ?_
    exact gm_r_int (pc := 22) (by decide +kernel) (Or.inl (by decide +kernel)) hq
  · simp only [List.mem_cons, List.not_mem_nil, or_false] at hi
    rcases hi with rfl | rfl
    · show (match gm_hit (gm_ow 171) 5 3 false (gm_hh 171) with
      | some (some h) => gm_Wp X LX (d + 1) _ _ 171 h (gm_ent 171 [gm_vr 1, gm_vi x0, gm_vi x1, gm_vr 245]) [gm_vo 4000] n1 K1 R1 M1 Q
      | some none => Q (.inr 3) n1 K1 R1 M1
      | none => False)
      rw [hl_171_3]
      show gm_Wp X LX (d + 1) _ _ 171 13 (gm_ent 171 [gm_vr 1, gm_vi x0, gm_vi x1, gm_vr 245]) [gm_vo 4000] n1 K1 R1 M1 Q
      refine gm_sz (gm_p_stor (pc := 13) (i := .astore 4) (sr := 2) (j := 4) (by decide +kernel) rfl (show 5 ≤ _ from Nat.le_of_ble_eq_true rfl) rfl) ?_
      refine gm_sz (gm_p_const (pc := 15) (i := .iconst 1) (v := gm_vi 1) (by decide +kernel) (by decide +kernel)) ?_
      exact gm_r_int (pc := 16) (by decide +kernel) (Or.inl (by decide +kernel)) hq
    · show (match gm_hit (gm_ow 171) 5 0 false (gm_hh 171) with
      | some (some h) => gm_Wp X LX (d + 1) _ _ 171 h (gm_ent 171 [gm_vr 1, gm_vi x0, gm_vi x1, gm_vr 245]) [gm_vo 4000] n1 K1 R1 M1 Q
      | some none => Q (.inr 0) n1 K1 R1 M1
      | none => False)
      rw [hl_171_0]
      show gm_Wp X LX (d + 1) _ _ 171 17 (gm_ent 171 [gm_vr 1, gm_vi x0, gm_vi x1, gm_vr 245]) [gm_vo 4000] n1 K1 R1 M1 Q
      refine gm_sz (gm_p_stor (pc := 17) (i := .astore 4) (sr := 2) (j := 4) (by decide +kernel) rfl (show 5 ≤ _ from Nat.le_of_ble_eq_true rfl) rfl) ?_
      refine gm_sz (gm_p_const (pc := 19) (i := .iconst 2) (v := gm_vi 2) (by decide +kernel) (by decide +kernel)) ?_
      exact gm_r_int (pc := 20) (by decide +kernel) (Or.inl (by decide +kernel)) hq
theorem hl_173_3 : gm_hit (gm_ow 173) 5 3 false (gm_hh 173) = some (some 13) := by decide +kernel
theorem hl_173 {x0 x1 : Int} (k1 : (1 ≤ 1 ∧ 1 ≤ n) ∧ (K 1).1 = 0 + 4) (h : gm_Wp X LX d bc bs 174 0 (gm_ent 174 [gm_vr 1, gm_vi x0, gm_vi x1]) [] n K R M (hQ [(3, 1)] Q)) : gm_Wp X LX (d + 1) bc bs 173 0 (gm_ent 173 [gm_vr 1, gm_vi x0, gm_vi x1, gm_vr 245]) [] n K R M Q := by
  refine gm_sz (gm_p_load (pc := 0) (i := .aload_n 3) (sr := 2) (j := 3) (by decide +kernel) rfl rfl rfl) ?_
  refine gm_sz (gm_p_const (pc := 1) (i := .iconst 0) (v := gm_vi 0) (by decide +kernel) (by decide +kernel)) ?_
  refine gm_sz (gm_p_load (pc := 2) (i := .aload_n 0) (sr := 2) (j := 0) (by decide +kernel) rfl rfl rfl) ?_
  refine gm_sz (gm_p_load (pc := 3) (i := .iload_n 1) (sr := 0) (j := 1) (by decide +kernel) rfl rfl rfl) ?_
  refine gm_sz (gm_p_load (pc := 4) (i := .iload_n 2) (sr := 0) (j := 2) (by decide +kernel) rfl rfl rfl) ?_
  refine gm_c_virtH (k := 1) (ci := 0) (mj := 174) (ix := 72) (pc := 5) (as := [gm_vi x0, gm_vi x1]) (st := [gm_vi 0, gm_vr 245]) (d' := d) (bc' := bc) (bs' := bs) (by decide +kernel) (by decide +kernel) (by decide +kernel) k1.1 k1.2 (by decide) (by decide +kernel) (show 2 = gm_na 174 by decide +kernel) (fun v hv => by simp only [List.mem_cons, List.not_mem_nil, or_false] at hv; rcases hv with rfl | rfl <;> simp [gm_sort]) (show 2 + 1 ≤ gm_ml 174 by decide +kernel) (Nat.le_of_ble_eq_true rfl) (Nat.le_refl _) (Nat.le_refl _) (Nat.le_refl _) ?_
  refine gm_Wp_mono (fun o n1 K1 R1 M1 hq => ?_) h
  obtain ⟨⟨hn, hK⟩, hq⟩ := hq
  rcases hq with ⟨v, rfl, hq⟩ | ⟨i, hi, rfl, hq⟩
  · show gm_Wp X LX (d + 1) _ _ 173 8 (gm_ent 173 [gm_vr 1, gm_vi x0, gm_vi x1, gm_vr 245]) [gm_vi v, gm_vi 0, gm_vr 245] n1 K1 R1 M1 Q
    refine gm_sz (gm_p_i2l (pc := 8) (by decide +kernel)) ?_
    refine gm_sz (gm_p_last (pc := 9) (k := 245) (by decide +kernel) ⟨by decide, hn⟩ (by rw [hK]) (by rw [hK]; decide)) ?_
    refine gm_sz (gm_p_goto (pc := 10) (off := 7) (by decide +kernel) (by decide)) ?_
    refine gm_sz (gm_p_const (pc := 17) (i := .iconst 0) (v := gm_vi 0) (by decide +kernel) (by decide +kernel)) ?_
    exact gm_r_int (pc := 18) (by decide +kernel) (Or.inl (by decide +kernel)) hq
  · simp only [List.mem_cons, List.not_mem_nil, or_false] at hi
    rcases hi with rfl
    · show (match gm_hit (gm_ow 173) 5 3 false (gm_hh 173) with
      | some (some h) => gm_Wp X LX (d + 1) _ _ 173 h (gm_ent 173 [gm_vr 1, gm_vi x0, gm_vi x1, gm_vr 245]) [gm_vo 4000] n1 K1 R1 M1 Q
      | some none => Q (.inr 3) n1 K1 R1 M1
      | none => False)
      rw [hl_173_3]
      show gm_Wp X LX (d + 1) _ _ 173 13 (gm_ent 173 [gm_vr 1, gm_vi x0, gm_vi x1, gm_vr 245]) [gm_vo 4000] n1 K1 R1 M1 Q
      refine gm_sz (gm_p_stor (pc := 13) (i := .astore 4) (sr := 2) (j := 4) (by decide +kernel) rfl (show 5 ≤ _ from Nat.le_of_ble_eq_true rfl) rfl) ?_
      refine gm_sz (gm_p_const (pc := 15) (i := .iconst 1) (v := gm_vi 1) (by decide +kernel) (by decide +kernel)) ?_
      exact gm_r_int (pc := 16) (by decide +kernel) (Or.inl (by decide +kernel)) hq
theorem hl_176_3 : gm_hit (gm_ow 176) 4 3 false (gm_hh 176) = some (some 12) := by decide +kernel
theorem hl_176 {x0 : Int} (k1 : (1 ≤ 1 ∧ 1 ≤ n) ∧ (K 1).1 = 0 + 4) (h : gm_Wp X LX d bc bs 177 0 (gm_ent 177 [gm_vr 1, gm_vi x0]) [] n K R M (hQ [(3, 1)] Q)) : gm_Wp X LX (d + 1) bc bs 176 0 (gm_ent 176 [gm_vr 1, gm_vi x0, gm_vr 245]) [] n K R M Q := by
  refine gm_sz (gm_p_load (pc := 0) (i := .aload_n 2) (sr := 2) (j := 2) (by decide +kernel) rfl rfl rfl) ?_
  refine gm_sz (gm_p_const (pc := 1) (i := .iconst 0) (v := gm_vi 0) (by decide +kernel) (by decide +kernel)) ?_
  refine gm_sz (gm_p_load (pc := 2) (i := .aload_n 0) (sr := 2) (j := 0) (by decide +kernel) rfl rfl rfl) ?_
  refine gm_sz (gm_p_load (pc := 3) (i := .iload_n 1) (sr := 0) (j := 1) (by decide +kernel) rfl rfl rfl) ?_
  refine gm_c_virtH (k := 1) (ci := 0) (mj := 177) (ix := 75) (pc := 4) (as := [gm_vi x0]) (st := [gm_vi 0, gm_vr 245]) (d' := d) (bc' := bc) (bs' := bs) (by decide +kernel) (by decide +kernel) (by decide +kernel) k1.1 k1.2 (by decide) (by decide +kernel) (show 1 = gm_na 177 by decide +kernel) (fw_c1 (by simp [gm_sort])) (show 1 + 1 ≤ gm_ml 177 by decide +kernel) (Nat.le_of_ble_eq_true rfl) (Nat.le_refl _) (Nat.le_refl _) (Nat.le_refl _) ?_
  refine gm_Wp_mono (fun o n1 K1 R1 M1 hq => ?_) h
  obtain ⟨⟨hn, hK⟩, hq⟩ := hq
  rcases hq with ⟨v, rfl, hq⟩ | ⟨i, hi, rfl, hq⟩
  · show gm_Wp X LX (d + 1) _ _ 176 7 (gm_ent 176 [gm_vr 1, gm_vi x0, gm_vr 245]) [gm_vi v, gm_vi 0, gm_vr 245] n1 K1 R1 M1 Q
    refine gm_sz (gm_p_i2l (pc := 7) (by decide +kernel)) ?_
    refine gm_sz (gm_p_last (pc := 8) (k := 245) (by decide +kernel) ⟨by decide, hn⟩ (by rw [hK]) (by rw [hK]; decide)) ?_
    refine gm_sz (gm_p_goto (pc := 9) (off := 6) (by decide +kernel) (by decide)) ?_
    refine gm_sz (gm_p_const (pc := 15) (i := .iconst 0) (v := gm_vi 0) (by decide +kernel) (by decide +kernel)) ?_
    exact gm_r_int (pc := 16) (by decide +kernel) (Or.inl (by decide +kernel)) hq
  · simp only [List.mem_cons, List.not_mem_nil, or_false] at hi
    rcases hi with rfl
    · show (match gm_hit (gm_ow 176) 4 3 false (gm_hh 176) with
      | some (some h) => gm_Wp X LX (d + 1) _ _ 176 h (gm_ent 176 [gm_vr 1, gm_vi x0, gm_vr 245]) [gm_vo 4000] n1 K1 R1 M1 Q
      | some none => Q (.inr 3) n1 K1 R1 M1
      | none => False)
      rw [hl_176_3]
      show gm_Wp X LX (d + 1) _ _ 176 12 (gm_ent 176 [gm_vr 1, gm_vi x0, gm_vr 245]) [gm_vo 4000] n1 K1 R1 M1 Q
      refine gm_sz (gm_p_stor (pc := 12) (i := .astore_n 3) (sr := 2) (j := 3) (by decide +kernel) rfl (show 4 ≤ _ from Nat.le_of_ble_eq_true rfl) rfl) ?_
      refine gm_sz (gm_p_const (pc := 13) (i := .iconst 1) (v := gm_vi 1) (by decide +kernel) (by decide +kernel)) ?_
      exact gm_r_int (pc := 14) (by decide +kernel) (Or.inl (by decide +kernel)) hq
theorem hl_178_3 : gm_hit (gm_ow 178) 4 3 false (gm_hh 178) = some (some 12) := by decide +kernel
theorem hl_178 {x0 : Int} (k1 : (1 ≤ 1 ∧ 1 ≤ n) ∧ (K 1).1 = 0 + 4) (h : gm_Wp X LX d bc bs 179 0 (gm_ent 179 [gm_vr 1, gm_vi x0]) [] n K R M (hQ [(3, 1)] Q)) : gm_Wp X LX (d + 1) bc bs 178 0 (gm_ent 178 [gm_vr 1, gm_vi x0, gm_vr 245]) [] n K R M Q := by
  refine gm_sz (gm_p_load (pc := 0) (i := .aload_n 2) (sr := 2) (j := 2) (by decide +kernel) rfl rfl rfl) ?_
  refine gm_sz (gm_p_const (pc := 1) (i := .iconst 0) (v := gm_vi 0) (by decide +kernel) (by decide +kernel)) ?_
  refine gm_sz (gm_p_load (pc := 2) (i := .aload_n 0) (sr := 2) (j := 0) (by decide +kernel) rfl rfl rfl) ?_
  refine gm_sz (gm_p_load (pc := 3) (i := .iload_n 1) (sr := 0) (j := 1) (by decide +kernel) rfl rfl rfl) ?_
  refine gm_c_virtH (k := 1) (ci := 0) (mj := 179) (ix := 78) (pc := 4) (as := [gm_vi x0]) (st := [gm_vi 0, gm_vr 245]) (d' := d) (bc' := bc) (bs' := bs) (by decide +kernel) (by decide +kernel) (by decide +kernel) k1.1 k1.2 (by decide) (by decide +kernel) (show 1 = gm_na 179 by decide +kernel) (fw_c1 (by simp [gm_sort])) (show 1 + 1 ≤ gm_ml 179 by decide +kernel) (Nat.le_of_ble_eq_true rfl) (Nat.le_refl _) (Nat.le_refl _) (Nat.le_refl _) ?_
  refine gm_Wp_mono (fun o n1 K1 R1 M1 hq => ?_) h
  obtain ⟨⟨hn, hK⟩, hq⟩ := hq
  rcases hq with ⟨v, rfl, hq⟩ | ⟨i, hi, rfl, hq⟩
  · show gm_Wp X LX (d + 1) _ _ 178 7 (gm_ent 178 [gm_vr 1, gm_vi x0, gm_vr 245]) [gm_vi v, gm_vi 0, gm_vr 245] n1 K1 R1 M1 Q
    refine gm_sz (gm_p_i2l (pc := 7) (by decide +kernel)) ?_
    refine gm_sz (gm_p_last (pc := 8) (k := 245) (by decide +kernel) ⟨by decide, hn⟩ (by rw [hK]) (by rw [hK]; decide)) ?_
    refine gm_sz (gm_p_goto (pc := 9) (off := 6) (by decide +kernel) (by decide)) ?_
    refine gm_sz (gm_p_const (pc := 15) (i := .iconst 0) (v := gm_vi 0) (by decide +kernel) (by decide +kernel)) ?_
    exact gm_r_int (pc := 16) (by decide +kernel) (Or.inl (by decide +kernel)) hq
  · simp only [List.mem_cons, List.not_mem_nil, or_false] at hi
    rcases hi with rfl
    · show (match gm_hit (gm_ow 178) 4 3 false (gm_hh 178) with
      | some (some h) => gm_Wp X LX (d + 1) _ _ 178 h (gm_ent 178 [gm_vr 1, gm_vi x0, gm_vr 245]) [gm_vo 4000] n1 K1 R1 M1 Q
      | some none => Q (.inr 3) n1 K1 R1 M1
      | none => False)
      rw [hl_178_3]
      show gm_Wp X LX (d + 1) _ _ 178 12 (gm_ent 178 [gm_vr 1, gm_vi x0, gm_vr 245]) [gm_vo 4000] n1 K1 R1 M1 Q
      refine gm_sz (gm_p_stor (pc := 12) (i := .astore_n 3) (sr := 2) (j := 3) (by decide +kernel) rfl (show 4 ≤ _ from Nat.le_of_ble_eq_true rfl) rfl) ?_
      refine gm_sz (gm_p_const (pc := 13) (i := .iconst 1) (v := gm_vi 1) (by decide +kernel) (by decide +kernel)) ?_
      exact gm_r_int (pc := 14) (by decide +kernel) (Or.inl (by decide +kernel)) hq
theorem hl_185_3 : gm_hit (gm_ow 185) 7 3 false (gm_hh 185) = some (some 15) := by decide +kernel
theorem hl_185_0 : gm_hit (gm_ow 185) 7 0 false (gm_hh 185) = some (some 19) := by decide +kernel
theorem hl_185 {x0 x1 x2 : Int} (k1 : (1 ≤ 1 ∧ 1 ≤ n) ∧ (K 1).1 = 0 + 4) (h : gm_Wp X LX d bc bs 186 0 (gm_ent 186 [gm_vr 1, gm_vi x0, gm_vi x1, gm_vi x2]) [] n K R M (hQ [(3, 1), (0, 2)] Q)) : gm_Wp X LX (d + 1) bc bs 185 0 (gm_ent 185 [gm_vr 1, gm_vi x0, gm_vi x1, gm_vi x2, gm_vr 245]) [] n K R M Q := by
  refine gm_sz (gm_p_load (pc := 0) (i := .aload 4) (sr := 2) (j := 4) (by decide +kernel) rfl rfl rfl) ?_
  refine gm_sz (gm_p_const (pc := 2) (i := .iconst 0) (v := gm_vi 0) (by decide +kernel) (by decide +kernel)) ?_
  refine gm_sz (gm_p_load (pc := 3) (i := .aload_n 0) (sr := 2) (j := 0) (by decide +kernel) rfl rfl rfl) ?_
  refine gm_sz (gm_p_load (pc := 4) (i := .iload_n 1) (sr := 0) (j := 1) (by decide +kernel) rfl rfl rfl) ?_
  refine gm_sz (gm_p_load (pc := 5) (i := .iload_n 2) (sr := 0) (j := 2) (by decide +kernel) rfl rfl rfl) ?_
  refine gm_sz (gm_p_load (pc := 6) (i := .iload_n 3) (sr := 0) (j := 3) (by decide +kernel) rfl rfl rfl) ?_
  refine gm_c_virtH (k := 1) (ci := 0) (mj := 186) (ix := 81) (pc := 7) (as := [gm_vi x0, gm_vi x1, gm_vi x2]) (st := [gm_vi 0, gm_vr 245]) (d' := d) (bc' := bc) (bs' := bs) (by decide +kernel) (by decide +kernel) (by decide +kernel) k1.1 k1.2 (by decide) (by decide +kernel) (show 3 = gm_na 186 by decide +kernel) (fun v hv => by simp only [List.mem_cons, List.not_mem_nil, or_false] at hv; rcases hv with rfl | rfl | rfl <;> simp [gm_sort]) (show 3 + 1 ≤ gm_ml 186 by decide +kernel) (Nat.le_of_ble_eq_true rfl) (Nat.le_refl _) (Nat.le_refl _) (Nat.le_refl _) ?_
  refine gm_Wp_mono (fun o n1 K1 R1 M1 hq => ?_) h
  obtain ⟨⟨hn, hK⟩, hq⟩ := hq
  rcases hq with ⟨v, rfl, hq⟩ | ⟨i, hi, rfl, hq⟩
  · show gm_Wp X LX (d + 1) _ _ 185 10 (gm_ent 185 [gm_vr 1, gm_vi x0, gm_vi x1, gm_vi x2, gm_vr 245]) [gm_vi v, gm_vi 0, gm_vr 245] n1 K1 R1 M1 Q
    refine gm_sz (gm_p_i2l (pc := 10) (by decide +kernel)) ?_
    refine gm_sz (gm_p_last (pc := 11) (k := 245) (by decide +kernel) ⟨by decide, hn⟩ (by rw [hK]) (by rw [hK]; decide)) ?_
    refine gm_sz (gm_p_goto (pc := 12) (off := 11) (by decide +kernel) (by decide)) ?_
    refine gm_sz (gm_p_const (pc := 23) (i := .iconst 0) (v := gm_vi 0) (by decide +kernel) (by decide +kernel)) ?_
    exact gm_r_int (pc := 24) (by decide +kernel) (Or.inl (by decide +kernel)) hq
  · simp only [List.mem_cons, List.not_mem_nil, or_false] at hi
    rcases hi with rfl | rfl
    · show (match gm_hit (gm_ow 185) 7 3 false (gm_hh 185) with
      | some (some h) => gm_Wp X LX (d + 1) _ _ 185 h (gm_ent 185 [gm_vr 1, gm_vi x0, gm_vi x1, gm_vi x2, gm_vr 245]) [gm_vo 4000] n1 K1 R1 M1 Q
      | some none => Q (.inr 3) n1 K1 R1 M1
      | none => False)
      rw [hl_185_3]
      show gm_Wp X LX (d + 1) _ _ 185 15 (gm_ent 185 [gm_vr 1, gm_vi x0, gm_vi x1, gm_vi x2, gm_vr 245]) [gm_vo 4000] n1 K1 R1 M1 Q
      refine gm_sz (gm_p_stor (pc := 15) (i := .astore 5) (sr := 2) (j := 5) (by decide +kernel) rfl (show 6 ≤ _ from Nat.le_of_ble_eq_true rfl) rfl) ?_
      refine gm_sz (gm_p_const (pc := 17) (i := .iconst 1) (v := gm_vi 1) (by decide +kernel) (by decide +kernel)) ?_
      exact gm_r_int (pc := 18) (by decide +kernel) (Or.inl (by decide +kernel)) hq
    · show (match gm_hit (gm_ow 185) 7 0 false (gm_hh 185) with
      | some (some h) => gm_Wp X LX (d + 1) _ _ 185 h (gm_ent 185 [gm_vr 1, gm_vi x0, gm_vi x1, gm_vi x2, gm_vr 245]) [gm_vo 4000] n1 K1 R1 M1 Q
      | some none => Q (.inr 0) n1 K1 R1 M1
      | none => False)
      rw [hl_185_0]
      show gm_Wp X LX (d + 1) _ _ 185 19 (gm_ent 185 [gm_vr 1, gm_vi x0, gm_vi x1, gm_vi x2, gm_vr 245]) [gm_vo 4000] n1 K1 R1 M1 Q
      refine gm_sz (gm_p_stor (pc := 19) (i := .astore 5) (sr := 2) (j := 5) (by decide +kernel) rfl (show 6 ≤ _ from Nat.le_of_ble_eq_true rfl) rfl) ?_
      refine gm_sz (gm_p_const (pc := 21) (i := .iconst 2) (v := gm_vi 2) (by decide +kernel) (by decide +kernel)) ?_
      exact gm_r_int (pc := 22) (by decide +kernel) (Or.inl (by decide +kernel)) hq
theorem hl_189_3 : gm_hit (gm_ow 189) 9 3 false (gm_hh 189) = some (some 17) := by decide +kernel
theorem hl_189_0 : gm_hit (gm_ow 189) 9 0 false (gm_hh 189) = some (some 21) := by decide +kernel
theorem hl_189 {x0 x1 x2 x3 : Int} (k1 : (1 ≤ 1 ∧ 1 ≤ n) ∧ (K 1).1 = 0 + 4) (h : gm_Wp X LX d bc bs 190 0 (gm_ent 190 [gm_vr 1, gm_vi x0, gm_vi x1, gm_vi x2, gm_vi x3]) [] n K R M (hQ [(3, 1), (0, 2)] Q)) : gm_Wp X LX (d + 1) bc bs 189 0 (gm_ent 189 [gm_vr 1, gm_vi x0, gm_vi x1, gm_vi x2, gm_vi x3, gm_vr 245]) [] n K R M Q := by
  refine gm_sz (gm_p_load (pc := 0) (i := .aload 5) (sr := 2) (j := 5) (by decide +kernel) rfl rfl rfl) ?_
  refine gm_sz (gm_p_const (pc := 2) (i := .iconst 0) (v := gm_vi 0) (by decide +kernel) (by decide +kernel)) ?_
  refine gm_sz (gm_p_load (pc := 3) (i := .aload_n 0) (sr := 2) (j := 0) (by decide +kernel) rfl rfl rfl) ?_
  refine gm_sz (gm_p_load (pc := 4) (i := .iload_n 1) (sr := 0) (j := 1) (by decide +kernel) rfl rfl rfl) ?_
  refine gm_sz (gm_p_load (pc := 5) (i := .iload_n 2) (sr := 0) (j := 2) (by decide +kernel) rfl rfl rfl) ?_
  refine gm_sz (gm_p_load (pc := 6) (i := .iload_n 3) (sr := 0) (j := 3) (by decide +kernel) rfl rfl rfl) ?_
  refine gm_sz (gm_p_load (pc := 7) (i := .iload 4) (sr := 0) (j := 4) (by decide +kernel) rfl rfl rfl) ?_
  refine gm_c_virtH (k := 1) (ci := 0) (mj := 190) (ix := 84) (pc := 9) (as := [gm_vi x0, gm_vi x1, gm_vi x2, gm_vi x3]) (st := [gm_vi 0, gm_vr 245]) (d' := d) (bc' := bc) (bs' := bs) (by decide +kernel) (by decide +kernel) (by decide +kernel) k1.1 k1.2 (by decide) (by decide +kernel) (show 4 = gm_na 190 by decide +kernel) (fun v hv => by simp only [List.mem_cons, List.not_mem_nil, or_false] at hv; rcases hv with rfl | rfl | rfl | rfl <;> simp [gm_sort]) (show 4 + 1 ≤ gm_ml 190 by decide +kernel) (Nat.le_of_ble_eq_true rfl) (Nat.le_refl _) (Nat.le_refl _) (Nat.le_refl _) ?_
  refine gm_Wp_mono (fun o n1 K1 R1 M1 hq => ?_) h
  obtain ⟨⟨hn, hK⟩, hq⟩ := hq
  rcases hq with ⟨v, rfl, hq⟩ | ⟨i, hi, rfl, hq⟩
  · show gm_Wp X LX (d + 1) _ _ 189 12 (gm_ent 189 [gm_vr 1, gm_vi x0, gm_vi x1, gm_vi x2, gm_vi x3, gm_vr 245]) [gm_vi v, gm_vi 0, gm_vr 245] n1 K1 R1 M1 Q
    refine gm_sz (gm_p_i2l (pc := 12) (by decide +kernel)) ?_
    refine gm_sz (gm_p_last (pc := 13) (k := 245) (by decide +kernel) ⟨by decide, hn⟩ (by rw [hK]) (by rw [hK]; decide)) ?_
    refine gm_sz (gm_p_goto (pc := 14) (off := 11) (by decide +kernel) (by decide)) ?_
    refine gm_sz (gm_p_const (pc := 25) (i := .iconst 0) (v := gm_vi 0) (by decide +kernel) (by decide +kernel)) ?_
    exact gm_r_int (pc := 26) (by decide +kernel) (Or.inl (by decide +kernel)) hq
  · simp only [List.mem_cons, List.not_mem_nil, or_false] at hi
    rcases hi with rfl | rfl
    · show (match gm_hit (gm_ow 189) 9 3 false (gm_hh 189) with
      | some (some h) => gm_Wp X LX (d + 1) _ _ 189 h (gm_ent 189 [gm_vr 1, gm_vi x0, gm_vi x1, gm_vi x2, gm_vi x3, gm_vr 245]) [gm_vo 4000] n1 K1 R1 M1 Q
      | some none => Q (.inr 3) n1 K1 R1 M1
      | none => False)
      rw [hl_189_3]
      show gm_Wp X LX (d + 1) _ _ 189 17 (gm_ent 189 [gm_vr 1, gm_vi x0, gm_vi x1, gm_vi x2, gm_vi x3, gm_vr 245]) [gm_vo 4000] n1 K1 R1 M1 Q
      refine gm_sz (gm_p_stor (pc := 17) (i := .astore 6) (sr := 2) (j := 6) (by decide +kernel) rfl (show 7 ≤ _ from Nat.le_of_ble_eq_true rfl) rfl) ?_
      refine gm_sz (gm_p_const (pc := 19) (i := .iconst 1) (v := gm_vi 1) (by decide +kernel) (by decide +kernel)) ?_
      exact gm_r_int (pc := 20) (by decide +kernel) (Or.inl (by decide +kernel)) hq
    · show (match gm_hit (gm_ow 189) 9 0 false (gm_hh 189) with
      | some (some h) => gm_Wp X LX (d + 1) _ _ 189 h (gm_ent 189 [gm_vr 1, gm_vi x0, gm_vi x1, gm_vi x2, gm_vi x3, gm_vr 245]) [gm_vo 4000] n1 K1 R1 M1 Q
      | some none => Q (.inr 0) n1 K1 R1 M1
      | none => False)
      rw [hl_189_0]
      show gm_Wp X LX (d + 1) _ _ 189 21 (gm_ent 189 [gm_vr 1, gm_vi x0, gm_vi x1, gm_vi x2, gm_vi x3, gm_vr 245]) [gm_vo 4000] n1 K1 R1 M1 Q
      refine gm_sz (gm_p_stor (pc := 21) (i := .astore 6) (sr := 2) (j := 6) (by decide +kernel) rfl (show 7 ≤ _ from Nat.le_of_ble_eq_true rfl) rfl) ?_
      refine gm_sz (gm_p_const (pc := 23) (i := .iconst 2) (v := gm_vi 2) (by decide +kernel) (by decide +kernel)) ?_
      exact gm_r_int (pc := 24) (by decide +kernel) (Or.inl (by decide +kernel)) hq
theorem hl_191_3 : gm_hit (gm_ow 191) 5 3 false (gm_hh 191) = some (some 13) := by decide +kernel
theorem hl_191 {x0 x1 : Int} (k1 : (1 ≤ 1 ∧ 1 ≤ n) ∧ (K 1).1 = 0 + 4) (h : gm_Wp X LX d bc bs 192 0 (gm_ent 192 [gm_vr 1, gm_vi x0, gm_vi x1]) [] n K R M (hQ [(3, 1)] Q)) : gm_Wp X LX (d + 1) bc bs 191 0 (gm_ent 191 [gm_vr 1, gm_vi x0, gm_vi x1, gm_vr 245]) [] n K R M Q := by
  refine gm_sz (gm_p_load (pc := 0) (i := .aload_n 3) (sr := 2) (j := 3) (by decide +kernel) rfl rfl rfl) ?_
  refine gm_sz (gm_p_const (pc := 1) (i := .iconst 0) (v := gm_vi 0) (by decide +kernel) (by decide +kernel)) ?_
  refine gm_sz (gm_p_load (pc := 2) (i := .aload_n 0) (sr := 2) (j := 0) (by decide +kernel) rfl rfl rfl) ?_
  refine gm_sz (gm_p_load (pc := 3) (i := .iload_n 1) (sr := 0) (j := 1) (by decide +kernel) rfl rfl rfl) ?_
  refine gm_sz (gm_p_load (pc := 4) (i := .iload_n 2) (sr := 0) (j := 2) (by decide +kernel) rfl rfl rfl) ?_
  refine gm_c_virtH (k := 1) (ci := 0) (mj := 192) (ix := 87) (pc := 5) (as := [gm_vi x0, gm_vi x1]) (st := [gm_vi 0, gm_vr 245]) (d' := d) (bc' := bc) (bs' := bs) (by decide +kernel) (by decide +kernel) (by decide +kernel) k1.1 k1.2 (by decide) (by decide +kernel) (show 2 = gm_na 192 by decide +kernel) (fun v hv => by simp only [List.mem_cons, List.not_mem_nil, or_false] at hv; rcases hv with rfl | rfl <;> simp [gm_sort]) (show 2 + 1 ≤ gm_ml 192 by decide +kernel) (Nat.le_of_ble_eq_true rfl) (Nat.le_refl _) (Nat.le_refl _) (Nat.le_refl _) ?_
  refine gm_Wp_mono (fun o n1 K1 R1 M1 hq => ?_) h
  obtain ⟨⟨hn, hK⟩, hq⟩ := hq
  rcases hq with ⟨v, rfl, hq⟩ | ⟨i, hi, rfl, hq⟩
  · show gm_Wp X LX (d + 1) _ _ 191 8 (gm_ent 191 [gm_vr 1, gm_vi x0, gm_vi x1, gm_vr 245]) [gm_vi v, gm_vi 0, gm_vr 245] n1 K1 R1 M1 Q
    refine gm_sz (gm_p_i2l (pc := 8) (by decide +kernel)) ?_
    refine gm_sz (gm_p_last (pc := 9) (k := 245) (by decide +kernel) ⟨by decide, hn⟩ (by rw [hK]) (by rw [hK]; decide)) ?_
    refine gm_sz (gm_p_goto (pc := 10) (off := 7) (by decide +kernel) (by decide)) ?_
    refine gm_sz (gm_p_const (pc := 17) (i := .iconst 0) (v := gm_vi 0) (by decide +kernel) (by decide +kernel)) ?_
    exact gm_r_int (pc := 18) (by decide +kernel) (Or.inl (by decide +kernel)) hq
  · simp only [List.mem_cons, List.not_mem_nil, or_false] at hi
    rcases hi with rfl
    · show (match gm_hit (gm_ow 191) 5 3 false (gm_hh 191) with
      | some (some h) => gm_Wp X LX (d + 1) _ _ 191 h (gm_ent 191 [gm_vr 1, gm_vi x0, gm_vi x1, gm_vr 245]) [gm_vo 4000] n1 K1 R1 M1 Q
      | some none => Q (.inr 3) n1 K1 R1 M1
      | none => False)
      rw [hl_191_3]
      show gm_Wp X LX (d + 1) _ _ 191 13 (gm_ent 191 [gm_vr 1, gm_vi x0, gm_vi x1, gm_vr 245]) [gm_vo 4000] n1 K1 R1 M1 Q
      refine gm_sz (gm_p_stor (pc := 13) (i := .astore 4) (sr := 2) (j := 4) (by decide +kernel) rfl (show 5 ≤ _ from Nat.le_of_ble_eq_true rfl) rfl) ?_
      refine gm_sz (gm_p_const (pc := 15) (i := .iconst 1) (v := gm_vi 1) (by decide +kernel) (by decide +kernel)) ?_
      exact gm_r_int (pc := 16) (by decide +kernel) (Or.inl (by decide +kernel)) hq
theorem hl_196_0 : gm_hit (gm_ow 196) 3 0 false (gm_hh 196) = some (some 11) := by decide +kernel
theorem hl_196 (k1 : (1 ≤ 1 ∧ 1 ≤ n) ∧ (K 1).1 = 0 + 4) (h : gm_Wp X LX d bc bs 197 0 (gm_ent 197 [gm_vr 1]) [] n K R M (hQ [(0, 1)] Q)) : gm_Wp X LX (d + 1) bc bs 196 0 (gm_ent 196 [gm_vr 1, gm_vr 245]) [] n K R M Q := by
  refine gm_sz (gm_p_load (pc := 0) (i := .aload_n 1) (sr := 2) (j := 1) (by decide +kernel) rfl rfl rfl) ?_
  refine gm_sz (gm_p_const (pc := 1) (i := .iconst 0) (v := gm_vi 0) (by decide +kernel) (by decide +kernel)) ?_
  refine gm_sz (gm_p_load (pc := 2) (i := .aload_n 0) (sr := 2) (j := 0) (by decide +kernel) rfl rfl rfl) ?_
  refine gm_c_virtH (k := 1) (ci := 0) (mj := 197) (ix := 94) (pc := 3) (as := []) (st := [gm_vi 0, gm_vr 245]) (d' := d) (bc' := bc) (bs' := bs) (by decide +kernel) (by decide +kernel) (by decide +kernel) k1.1 k1.2 (by decide) (by decide +kernel) (show 0 = gm_na 197 by decide +kernel) fw_c0 (show 0 + 1 ≤ gm_ml 197 by decide +kernel) (Nat.le_of_ble_eq_true rfl) (Nat.le_refl _) (Nat.le_refl _) (Nat.le_refl _) ?_
  refine gm_Wp_mono (fun o n1 K1 R1 M1 hq => ?_) h
  obtain ⟨⟨hn, hK⟩, hq⟩ := hq
  rcases hq with ⟨v, rfl, hq⟩ | ⟨i, hi, rfl, hq⟩
  · show gm_Wp X LX (d + 1) _ _ 196 6 (gm_ent 196 [gm_vr 1, gm_vr 245]) [gm_vi v, gm_vi 0, gm_vr 245] n1 K1 R1 M1 Q
    refine gm_sz (gm_p_i2l (pc := 6) (by decide +kernel)) ?_
    refine gm_sz (gm_p_last (pc := 7) (k := 245) (by decide +kernel) ⟨by decide, hn⟩ (by rw [hK]) (by rw [hK]; decide)) ?_
    refine gm_sz (gm_p_goto (pc := 8) (off := 6) (by decide +kernel) (by decide)) ?_
    refine gm_sz (gm_p_const (pc := 14) (i := .iconst 0) (v := gm_vi 0) (by decide +kernel) (by decide +kernel)) ?_
    exact gm_r_int (pc := 15) (by decide +kernel) (Or.inl (by decide +kernel)) hq
  · simp only [List.mem_cons, List.not_mem_nil, or_false] at hi
    rcases hi with rfl
    · show (match gm_hit (gm_ow 196) 3 0 false (gm_hh 196) with
      | some (some h) => gm_Wp X LX (d + 1) _ _ 196 h (gm_ent 196 [gm_vr 1, gm_vr 245]) [gm_vo 4000] n1 K1 R1 M1 Q
      | some none => Q (.inr 0) n1 K1 R1 M1
      | none => False)
      rw [hl_196_0]
      show gm_Wp X LX (d + 1) _ _ 196 11 (gm_ent 196 [gm_vr 1, gm_vr 245]) [gm_vo 4000] n1 K1 R1 M1 Q
      refine gm_sz (gm_p_stor (pc := 11) (i := .astore_n 2) (sr := 2) (j := 2) (by decide +kernel) rfl (show 3 ≤ _ from Nat.le_of_ble_eq_true rfl) rfl) ?_
      refine gm_sz (gm_p_const (pc := 12) (i := .iconst 1) (v := gm_vi 1) (by decide +kernel) (by decide +kernel)) ?_
      exact gm_r_int (pc := 13) (by decide +kernel) (Or.inl (by decide +kernel)) hq
theorem hl_200_3 : gm_hit (gm_ow 200) 7 3 false (gm_hh 200) = some (some 15) := by decide +kernel
theorem hl_200_0 : gm_hit (gm_ow 200) 7 0 false (gm_hh 200) = some (some 19) := by decide +kernel
theorem hl_200 {x0 x1 x2 : Int} (k1 : (1 ≤ 1 ∧ 1 ≤ n) ∧ (K 1).1 = 0 + 4) (h : gm_Wp X LX d bc bs 201 0 (gm_ent 201 [gm_vr 1, gm_vi x0, gm_vi x1, gm_vi x2]) [] n K R M (hQ [(3, 1), (0, 2)] Q)) : gm_Wp X LX (d + 1) bc bs 200 0 (gm_ent 200 [gm_vr 1, gm_vi x0, gm_vi x1, gm_vi x2, gm_vr 245]) [] n K R M Q := by
  refine gm_sz (gm_p_load (pc := 0) (i := .aload 4) (sr := 2) (j := 4) (by decide +kernel) rfl rfl rfl) ?_
  refine gm_sz (gm_p_const (pc := 2) (i := .iconst 0) (v := gm_vi 0) (by decide +kernel) (by decide +kernel)) ?_
  refine gm_sz (gm_p_load (pc := 3) (i := .aload_n 0) (sr := 2) (j := 0) (by decide +kernel) rfl rfl rfl) ?_
  refine gm_sz (gm_p_load (pc := 4) (i := .iload_n 1) (sr := 0) (j := 1) (by decide +kernel) rfl rfl rfl) ?_
  refine gm_sz (gm_p_load (pc := 5) (i := .iload_n 2) (sr := 0) (j := 2) (by decide +kernel) rfl rfl rfl) ?_
  refine gm_sz (gm_p_load (pc := 6) (i := .iload_n 3) (sr := 0) (j := 3) (by decide +kernel) rfl rfl rfl) ?_
  refine gm_c_virtH (k := 1) (ci := 0) (mj := 201) (ix := 97) (pc := 7) (as := [gm_vi x0, gm_vi x1, gm_vi x2]) (st := [gm_vi 0, gm_vr 245]) (d' := d) (bc' := bc) (bs' := bs) (by decide +kernel) (by decide +kernel) (by decide +kernel) k1.1 k1.2 (by decide) (by decide +kernel) (show 3 = gm_na 201 by decide +kernel) (fun v hv => by simp only [List.mem_cons, List.not_mem_nil, or_false] at hv; rcases hv with rfl | rfl | rfl <;> simp [gm_sort]) (show 3 + 1 ≤ gm_ml 201 by decide +kernel) (Nat.le_of_ble_eq_true rfl) (Nat.le_refl _) (Nat.le_refl _) (Nat.le_refl _) ?_
  refine gm_Wp_mono (fun o n1 K1 R1 M1 hq => ?_) h
  obtain ⟨⟨hn, hK⟩, hq⟩ := hq
  rcases hq with ⟨v, rfl, hq⟩ | ⟨i, hi, rfl, hq⟩
  · show gm_Wp X LX (d + 1) _ _ 200 10 (gm_ent 200 [gm_vr 1, gm_vi x0, gm_vi x1, gm_vi x2, gm_vr 245]) [gm_vi v, gm_vi 0, gm_vr 245] n1 K1 R1 M1 Q
    refine gm_sz (gm_p_i2l (pc := 10) (by decide +kernel)) ?_
    refine gm_sz (gm_p_last (pc := 11) (k := 245) (by decide +kernel) ⟨by decide, hn⟩ (by rw [hK]) (by rw [hK]; decide)) ?_
    refine gm_sz (gm_p_goto (pc := 12) (off := 11) (by decide +kernel) (by decide)) ?_
    refine gm_sz (gm_p_const (pc := 23) (i := .iconst 0) (v := gm_vi 0) (by decide +kernel) (by decide +kernel)) ?_
    exact gm_r_int (pc := 24) (by decide +kernel) (Or.inl (by decide +kernel)) hq
  · simp only [List.mem_cons, List.not_mem_nil, or_false] at hi
    rcases hi with rfl | rfl
    · show (match gm_hit (gm_ow 200) 7 3 false (gm_hh 200) with
      | some (some h) => gm_Wp X LX (d + 1) _ _ 200 h (gm_ent 200 [gm_vr 1, gm_vi x0, gm_vi x1, gm_vi x2, gm_vr 245]) [gm_vo 4000] n1 K1 R1 M1 Q
      | some none => Q (.inr 3) n1 K1 R1 M1
      | none => False)
      rw [hl_200_3]
      show gm_Wp X LX (d + 1) _ _ 200 15 (gm_ent 200 [gm_vr 1, gm_vi x0, gm_vi x1, gm_vi x2, gm_vr 245]) [gm_vo 4000] n1 K1 R1 M1 Q
      refine gm_sz (gm_p_stor (pc := 15) (i := .astore 5) (sr := 2) (j := 5) (by decide +kernel) rfl (show 6 ≤ _ from Nat.le_of_ble_eq_true rfl) rfl) ?_
      refine gm_sz (gm_p_const (pc := 17) (i := .iconst 1) (v := gm_vi 1) (by decide +kernel) (by decide +kernel)) ?_
      exact gm_r_int (pc := 18) (by decide +kernel) (Or.inl (by decide +kernel)) hq
    · show (match gm_hit (gm_ow 200) 7 0 false (gm_hh 200) with
      | some (some h) => gm_Wp X LX (d + 1) _ _ 200 h (gm_ent 200 [gm_vr 1, gm_vi x0, gm_vi x1, gm_vi x2, gm_vr 245]) [gm_vo 4000] n1 K1 R1 M1 Q
      | some none => Q (.inr 0) n1 K1 R1 M1
      | none => False)
      rw [hl_200_0]
      show gm_Wp X LX (d + 1) _ _ 200 19 (gm_ent 200 [gm_vr 1, gm_vi x0, gm_vi x1, gm_vi x2, gm_vr 245]) [gm_vo 4000] n1 K1 R1 M1 Q
      refine gm_sz (gm_p_stor (pc := 19) (i := .astore 5) (sr := 2) (j := 5) (by decide +kernel) rfl (show 6 ≤ _ from Nat.le_of_ble_eq_true rfl) rfl) ?_
      refine gm_sz (gm_p_const (pc := 21) (i := .iconst 2) (v := gm_vi 2) (by decide +kernel) (by decide +kernel)) ?_
      exact gm_r_int (pc := 22) (by decide +kernel) (Or.inl (by decide +kernel)) hq
theorem hl_206_3 : gm_hit (gm_ow 206) 7 3 false (gm_hh 206) = some (some 15) := by decide +kernel
theorem hl_206_0 : gm_hit (gm_ow 206) 7 0 false (gm_hh 206) = some (some 19) := by decide +kernel
theorem hl_206 {x0 x1 x2 : Int} (k1 : (1 ≤ 1 ∧ 1 ≤ n) ∧ (K 1).1 = 0 + 4) (h : gm_Wp X LX d bc bs 207 0 (gm_ent 207 [gm_vr 1, gm_vi x0, gm_vi x1, gm_vi x2]) [] n K R M (hQ [(3, 1), (0, 2)] Q)) : gm_Wp X LX (d + 1) bc bs 206 0 (gm_ent 206 [gm_vr 1, gm_vi x0, gm_vi x1, gm_vi x2, gm_vr 245]) [] n K R M Q := by
  refine gm_sz (gm_p_load (pc := 0) (i := .aload 4) (sr := 2) (j := 4) (by decide +kernel) rfl rfl rfl) ?_
  refine gm_sz (gm_p_const (pc := 2) (i := .iconst 0) (v := gm_vi 0) (by decide +kernel) (by decide +kernel)) ?_
  refine gm_sz (gm_p_load (pc := 3) (i := .aload_n 0) (sr := 2) (j := 0) (by decide +kernel) rfl rfl rfl) ?_
  refine gm_sz (gm_p_load (pc := 4) (i := .iload_n 1) (sr := 0) (j := 1) (by decide +kernel) rfl rfl rfl) ?_
  refine gm_sz (gm_p_load (pc := 5) (i := .iload_n 2) (sr := 0) (j := 2) (by decide +kernel) rfl rfl rfl) ?_
  refine gm_sz (gm_p_load (pc := 6) (i := .iload_n 3) (sr := 0) (j := 3) (by decide +kernel) rfl rfl rfl) ?_
  refine gm_c_virtH (k := 1) (ci := 0) (mj := 207) (ix := 101) (pc := 7) (as := [gm_vi x0, gm_vi x1, gm_vi x2]) (st := [gm_vi 0, gm_vr 245]) (d' := d) (bc' := bc) (bs' := bs) (by decide +kernel) (by decide +kernel) (by decide +kernel) k1.1 k1.2 (by decide) (by decide +kernel) (show 3 = gm_na 207 by decide +kernel) (fun v hv => by simp only [List.mem_cons, List.not_mem_nil, or_false] at hv; rcases hv with rfl | rfl | rfl <;> simp [gm_sort]) (show 3 + 1 ≤ gm_ml 207 by decide +kernel) (Nat.le_of_ble_eq_true rfl) (Nat.le_refl _) (Nat.le_refl _) (Nat.le_refl _) ?_
  refine gm_Wp_mono (fun o n1 K1 R1 M1 hq => ?_) h
  obtain ⟨⟨hn, hK⟩, hq⟩ := hq
  rcases hq with ⟨v, rfl, hq⟩ | ⟨i, hi, rfl, hq⟩
  · show gm_Wp X LX (d + 1) _ _ 206 10 (gm_ent 206 [gm_vr 1, gm_vi x0, gm_vi x1, gm_vi x2, gm_vr 245]) [gm_vi v, gm_vi 0, gm_vr 245] n1 K1 R1 M1 Q
    refine gm_sz (gm_p_i2l (pc := 10) (by decide +kernel)) ?_
    refine gm_sz (gm_p_last (pc := 11) (k := 245) (by decide +kernel) ⟨by decide, hn⟩ (by rw [hK]) (by rw [hK]; decide)) ?_
    refine gm_sz (gm_p_goto (pc := 12) (off := 11) (by decide +kernel) (by decide)) ?_
    refine gm_sz (gm_p_const (pc := 23) (i := .iconst 0) (v := gm_vi 0) (by decide +kernel) (by decide +kernel)) ?_
    exact gm_r_int (pc := 24) (by decide +kernel) (Or.inl (by decide +kernel)) hq
  · simp only [List.mem_cons, List.not_mem_nil, or_false] at hi
    rcases hi with rfl | rfl
    · show (match gm_hit (gm_ow 206) 7 3 false (gm_hh 206) with
      | some (some h) => gm_Wp X LX (d + 1) _ _ 206 h (gm_ent 206 [gm_vr 1, gm_vi x0, gm_vi x1, gm_vi x2, gm_vr 245]) [gm_vo 4000] n1 K1 R1 M1 Q
      | some none => Q (.inr 3) n1 K1 R1 M1
      | none => False)
      rw [hl_206_3]
      show gm_Wp X LX (d + 1) _ _ 206 15 (gm_ent 206 [gm_vr 1, gm_vi x0, gm_vi x1, gm_vi x2, gm_vr 245]) [gm_vo 4000] n1 K1 R1 M1 Q
      refine gm_sz (gm_p_stor (pc := 15) (i := .astore 5) (sr := 2) (j := 5) (by decide +kernel) rfl (show 6 ≤ _ from Nat.le_of_ble_eq_true rfl) rfl) ?_
      refine gm_sz (gm_p_const (pc := 17) (i := .iconst 1) (v := gm_vi 1) (by decide +kernel) (by decide +kernel)) ?_
      exact gm_r_int (pc := 18) (by decide +kernel) (Or.inl (by decide +kernel)) hq
    · show (match gm_hit (gm_ow 206) 7 0 false (gm_hh 206) with
      | some (some h) => gm_Wp X LX (d + 1) _ _ 206 h (gm_ent 206 [gm_vr 1, gm_vi x0, gm_vi x1, gm_vi x2, gm_vr 245]) [gm_vo 4000] n1 K1 R1 M1 Q
      | some none => Q (.inr 0) n1 K1 R1 M1
      | none => False)
      rw [hl_206_0]
      show gm_Wp X LX (d + 1) _ _ 206 19 (gm_ent 206 [gm_vr 1, gm_vi x0, gm_vi x1, gm_vi x2, gm_vr 245]) [gm_vo 4000] n1 K1 R1 M1 Q
      refine gm_sz (gm_p_stor (pc := 19) (i := .astore 5) (sr := 2) (j := 5) (by decide +kernel) rfl (show 6 ≤ _ from Nat.le_of_ble_eq_true rfl) rfl) ?_
      refine gm_sz (gm_p_const (pc := 21) (i := .iconst 2) (v := gm_vi 2) (by decide +kernel) (by decide +kernel)) ?_
      exact gm_r_int (pc := 22) (by decide +kernel) (Or.inl (by decide +kernel)) hq
theorem hl_210_3 : gm_hit (gm_ow 210) 5 3 false (gm_hh 210) = some (some 13) := by decide +kernel
theorem hl_210_0 : gm_hit (gm_ow 210) 5 0 false (gm_hh 210) = some (some 17) := by decide +kernel
theorem hl_210 {x0 x1 : Int} (k1 : (1 ≤ 1 ∧ 1 ≤ n) ∧ (K 1).1 = 0 + 4) (h : gm_Wp X LX d bc bs 211 0 (gm_ent 211 [gm_vr 1, gm_vi x0, gm_vi x1]) [] n K R M (hQ [(3, 1), (0, 2)] Q)) : gm_Wp X LX (d + 1) bc bs 210 0 (gm_ent 210 [gm_vr 1, gm_vi x0, gm_vi x1, gm_vr 245]) [] n K R M Q := by
  refine gm_sz (gm_p_load (pc := 0) (i := .aload_n 3) (sr := 2) (j := 3) (by decide +kernel) rfl rfl rfl) ?_
  refine gm_sz (gm_p_const (pc := 1) (i := .iconst 0) (v := gm_vi 0) (by decide +kernel) (by decide +kernel)) ?_
  refine gm_sz (gm_p_load (pc := 2) (i := .aload_n 0) (sr := 2) (j := 0) (by decide +kernel) rfl rfl rfl) ?_
  refine gm_sz (gm_p_load (pc := 3) (i := .iload_n 1) (sr := 0) (j := 1) (by decide +kernel) rfl rfl rfl) ?_
  refine gm_sz (gm_p_load (pc := 4) (i := .iload_n 2) (sr := 0) (j := 2) (by decide +kernel) rfl rfl rfl) ?_
  refine gm_c_virtH (k := 1) (ci := 0) (mj := 211) (ix := 104) (pc := 5) (as := [gm_vi x0, gm_vi x1]) (st := [gm_vi 0, gm_vr 245]) (d' := d) (bc' := bc) (bs' := bs) (by decide +kernel) (by decide +kernel) (by decide +kernel) k1.1 k1.2 (by decide) (by decide +kernel) (show 2 = gm_na 211 by decide +kernel) (fun v hv => by simp only [List.mem_cons, List.not_mem_nil, or_false] at hv; rcases hv with rfl | rfl <;> simp [gm_sort]) (show 2 + 1 ≤ gm_ml 211 by decide +kernel) (Nat.le_of_ble_eq_true rfl) (Nat.le_refl _) (Nat.le_refl _) (Nat.le_refl _) ?_
  refine gm_Wp_mono (fun o n1 K1 R1 M1 hq => ?_) h
  obtain ⟨⟨hn, hK⟩, hq⟩ := hq
  rcases hq with ⟨v, rfl, hq⟩ | ⟨i, hi, rfl, hq⟩
  · show gm_Wp X LX (d + 1) _ _ 210 8 (gm_ent 210 [gm_vr 1, gm_vi x0, gm_vi x1, gm_vr 245]) [gm_vi v, gm_vi 0, gm_vr 245] n1 K1 R1 M1 Q
    refine gm_sz (gm_p_i2l (pc := 8) (by decide +kernel)) ?_
    refine gm_sz (gm_p_last (pc := 9) (k := 245) (by decide +kernel) ⟨by decide, hn⟩ (by rw [hK]) (by rw [hK]; decide)) ?_
    refine gm_sz (gm_p_goto (pc := 10) (off := 11) (by decide +kernel) (by decide)) ?_
    refine gm_sz (gm_p_const (pc := 21) (i := .iconst 0) (v := gm_vi 0) (by decide +kernel) (by decide +kernel)) ?_
    exact gm_r_int (pc := 22) (by decide +kernel) (Or.inl (by decide +kernel)) hq
  · simp only [List.mem_cons, List.not_mem_nil, or_false] at hi
    rcases hi with rfl | rfl
    · show (match gm_hit (gm_ow 210) 5 3 false (gm_hh 210) with
      | some (some h) => gm_Wp X LX (d + 1) _ _ 210 h (gm_ent 210 [gm_vr 1, gm_vi x0, gm_vi x1, gm_vr 245]) [gm_vo 4000] n1 K1 R1 M1 Q
      | some none => Q (.inr 3) n1 K1 R1 M1
      | none => False)
      rw [hl_210_3]
      show gm_Wp X LX (d + 1) _ _ 210 13 (gm_ent 210 [gm_vr 1, gm_vi x0, gm_vi x1, gm_vr 245]) [gm_vo 4000] n1 K1 R1 M1 Q
      refine gm_sz (gm_p_stor (pc := 13) (i := .astore 4) (sr := 2) (j := 4) (by decide +kernel) rfl (show 5 ≤ _ from Nat.le_of_ble_eq_true rfl) rfl) ?_
      refine gm_sz (gm_p_const (pc := 15) (i := .iconst 1) (v := gm_vi 1) (by decide +kernel) (by decide +kernel)) ?_
      exact gm_r_int (pc := 16) (by decide +kernel) (Or.inl (by decide +kernel)) hq
    · show (match gm_hit (gm_ow 210) 5 0 false (gm_hh 210) with
      | some (some h) => gm_Wp X LX (d + 1) _ _ 210 h (gm_ent 210 [gm_vr 1, gm_vi x0, gm_vi x1, gm_vr 245]) [gm_vo 4000] n1 K1 R1 M1 Q
      | some none => Q (.inr 0) n1 K1 R1 M1
      | none => False)
      rw [hl_210_0]
      show gm_Wp X LX (d + 1) _ _ 210 17 (gm_ent 210 [gm_vr 1, gm_vi x0, gm_vi x1, gm_vr 245]) [gm_vo 4000] n1 K1 R1 M1 Q
      refine gm_sz (gm_p_stor (pc := 17) (i := .astore 4) (sr := 2) (j := 4) (by decide +kernel) rfl (show 5 ≤ _ from Nat.le_of_ble_eq_true rfl) rfl) ?_
      refine gm_sz (gm_p_const (pc := 19) (i := .iconst 2) (v := gm_vi 2) (by decide +kernel) (by decide +kernel)) ?_
      exact gm_r_int (pc := 20) (by decide +kernel) (Or.inl (by decide +kernel)) hq
theorem hl_212_0 : gm_hit (gm_ow 212) 5 0 false (gm_hh 212) = some (some 13) := by decide +kernel
theorem hl_212 {x0 x1 : Int} (k1 : (1 ≤ 1 ∧ 1 ≤ n) ∧ (K 1).1 = 0 + 4) (h : gm_Wp X LX d bc bs 213 0 (gm_ent 213 [gm_vr 1, gm_vi x0, gm_vi x1]) [] n K R M (hQ [(0, 1)] Q)) : gm_Wp X LX (d + 1) bc bs 212 0 (gm_ent 212 [gm_vr 1, gm_vi x0, gm_vi x1, gm_vr 245]) [] n K R M Q := by
  refine gm_sz (gm_p_load (pc := 0) (i := .aload_n 3) (sr := 2) (j := 3) (by decide +kernel) rfl rfl rfl) ?_
  refine gm_sz (gm_p_const (pc := 1) (i := .iconst 0) (v := gm_vi 0) (by decide +kernel) (by decide +kernel)) ?_
  refine gm_sz (gm_p_load (pc := 2) (i := .aload_n 0) (sr := 2) (j := 0) (by decide +kernel) rfl rfl rfl) ?_
  refine gm_sz (gm_p_load (pc := 3) (i := .iload_n 1) (sr := 0) (j := 1) (by decide +kernel) rfl rfl rfl) ?_
  refine gm_sz (gm_p_load (pc := 4) (i := .iload_n 2) (sr := 0) (j := 2) (by decide +kernel) rfl rfl rfl) ?_
  refine gm_c_virtH (k := 1) (ci := 0) (mj := 213) (ix := 107) (pc := 5) (as := [gm_vi x0, gm_vi x1]) (st := [gm_vi 0, gm_vr 245]) (d' := d) (bc' := bc) (bs' := bs) (by decide +kernel) (by decide +kernel) (by decide +kernel) k1.1 k1.2 (by decide) (by decide +kernel) (show 2 = gm_na 213 by decide +kernel) (fun v hv => by simp only [List.mem_cons, List.not_mem_nil, or_false] at hv; rcases hv with rfl | rfl <;> simp [gm_sort]) (show 2 + 1 ≤ gm_ml 213 by decide +kernel) (Nat.le_of_ble_eq_true rfl) (Nat.le_refl _) (Nat.le_refl _) (Nat.le_refl _) ?_
  refine gm_Wp_mono (fun o n1 K1 R1 M1 hq => ?_) h
  obtain ⟨⟨hn, hK⟩, hq⟩ := hq
  rcases hq with ⟨v, rfl, hq⟩ | ⟨i, hi, rfl, hq⟩
  · show gm_Wp X LX (d + 1) _ _ 212 8 (gm_ent 212 [gm_vr 1, gm_vi x0, gm_vi x1, gm_vr 245]) [gm_vi v, gm_vi 0, gm_vr 245] n1 K1 R1 M1 Q
    refine gm_sz (gm_p_i2l (pc := 8) (by decide +kernel)) ?_
    refine gm_sz (gm_p_last (pc := 9) (k := 245) (by decide +kernel) ⟨by decide, hn⟩ (by rw [hK]) (by rw [hK]; decide)) ?_
    refine gm_sz (gm_p_goto (pc := 10) (off := 7) (by decide +kernel) (by decide)) ?_
    refine gm_sz (gm_p_const (pc := 17) (i := .iconst 0) (v := gm_vi 0) (by decide +kernel) (by decide +kernel)) ?_
    exact gm_r_int (pc := 18) (by decide +kernel) (Or.inl (by decide +kernel)) hq
  · simp only [List.mem_cons, List.not_mem_nil, or_false] at hi
    rcases hi with rfl
    · show (match gm_hit (gm_ow 212) 5 0 false (gm_hh 212) with
      | some (some h) => gm_Wp X LX (d + 1) _ _ 212 h (gm_ent 212 [gm_vr 1, gm_vi x0, gm_vi x1, gm_vr 245]) [gm_vo 4000] n1 K1 R1 M1 Q
      | some none => Q (.inr 0) n1 K1 R1 M1
      | none => False)
      rw [hl_212_0]
      show gm_Wp X LX (d + 1) _ _ 212 13 (gm_ent 212 [gm_vr 1, gm_vi x0, gm_vi x1, gm_vr 245]) [gm_vo 4000] n1 K1 R1 M1 Q
      refine gm_sz (gm_p_stor (pc := 13) (i := .astore 4) (sr := 2) (j := 4) (by decide +kernel) rfl (show 5 ≤ _ from Nat.le_of_ble_eq_true rfl) rfl) ?_
      refine gm_sz (gm_p_const (pc := 15) (i := .iconst 1) (v := gm_vi 1) (by decide +kernel) (by decide +kernel)) ?_
      exact gm_r_int (pc := 16) (by decide +kernel) (Or.inl (by decide +kernel)) hq
theorem hl_217_0 : gm_hit (gm_ow 217) 5 0 false (gm_hh 217) = some (some 13) := by decide +kernel
theorem hl_217 {x0 x1 : Int} (k1 : (1 ≤ 1 ∧ 1 ≤ n) ∧ (K 1).1 = 0 + 4) (h : gm_Wp X LX d bc bs 218 0 (gm_ent 218 [gm_vr 1, gm_vi x0, gm_vi x1]) [] n K R M (hQ [(0, 1)] Q)) : gm_Wp X LX (d + 1) bc bs 217 0 (gm_ent 217 [gm_vr 1, gm_vi x0, gm_vi x1, gm_vr 245]) [] n K R M Q := by
  refine gm_sz (gm_p_load (pc := 0) (i := .aload_n 3) (sr := 2) (j := 3) (by decide +kernel) rfl rfl rfl) ?_
  refine gm_sz (gm_p_const (pc := 1) (i := .iconst 0) (v := gm_vi 0) (by decide +kernel) (by decide +kernel)) ?_
  refine gm_sz (gm_p_load (pc := 2) (i := .aload_n 0) (sr := 2) (j := 0) (by decide +kernel) rfl rfl rfl) ?_
  refine gm_sz (gm_p_load (pc := 3) (i := .iload_n 1) (sr := 0) (j := 1) (by decide +kernel) rfl rfl rfl) ?_
  refine gm_sz (gm_p_load (pc := 4) (i := .iload_n 2) (sr := 0) (j := 2) (by decide +kernel) rfl rfl rfl) ?_
  refine gm_c_virtH (k := 1) (ci := 0) (mj := 218) (ix := 111) (pc := 5) (as := [gm_vi x0, gm_vi x1]) (st := [gm_vi 0, gm_vr 245]) (d' := d) (bc' := bc) (bs' := bs) (by decide +kernel) (by decide +kernel) (by decide +kernel) k1.1 k1.2 (by decide) (by decide +kernel) (show 2 = gm_na 218 by decide +kernel) (fun v hv => by simp only [List.mem_cons, List.not_mem_nil, or_false] at hv; rcases hv with rfl | rfl <;> simp [gm_sort]) (show 2 + 1 ≤ gm_ml 218 by decide +kernel) (Nat.le_of_ble_eq_true rfl) (Nat.le_refl _) (Nat.le_refl _) (Nat.le_refl _) ?_
  refine gm_Wp_mono (fun o n1 K1 R1 M1 hq => ?_) h
  obtain ⟨⟨hn, hK⟩, hq⟩ := hq
  rcases hq with ⟨v, rfl, hq⟩ | ⟨i, hi, rfl, hq⟩
  · show gm_Wp X LX (d + 1) _ _ 217 8 (gm_ent 217 [gm_vr 1, gm_vi x0, gm_vi x1, gm_vr 245]) [gm_vi v, gm_vi 0, gm_vr 245] n1 K1 R1 M1 Q
    refine gm_sz (gm_p_i2l (pc := 8) (by decide +kernel)) ?_
    refine gm_sz (gm_p_last (pc := 9) (k := 245) (by decide +kernel) ⟨by decide, hn⟩ (by rw [hK]) (by rw [hK]; decide)) ?_
    refine gm_sz (gm_p_goto (pc := 10) (off := 7) (by decide +kernel) (by decide)) ?_
    refine gm_sz (gm_p_const (pc := 17) (i := .iconst 0) (v := gm_vi 0) (by decide +kernel) (by decide +kernel)) ?_
    exact gm_r_int (pc := 18) (by decide +kernel) (Or.inl (by decide +kernel)) hq
  · simp only [List.mem_cons, List.not_mem_nil, or_false] at hi
    rcases hi with rfl
    · show (match gm_hit (gm_ow 217) 5 0 false (gm_hh 217) with
      | some (some h) => gm_Wp X LX (d + 1) _ _ 217 h (gm_ent 217 [gm_vr 1, gm_vi x0, gm_vi x1, gm_vr 245]) [gm_vo 4000] n1 K1 R1 M1 Q
      | some none => Q (.inr 0) n1 K1 R1 M1
      | none => False)
      rw [hl_217_0]
      show gm_Wp X LX (d + 1) _ _ 217 13 (gm_ent 217 [gm_vr 1, gm_vi x0, gm_vi x1, gm_vr 245]) [gm_vo 4000] n1 K1 R1 M1 Q
      refine gm_sz (gm_p_stor (pc := 13) (i := .astore 4) (sr := 2) (j := 4) (by decide +kernel) rfl (show 5 ≤ _ from Nat.le_of_ble_eq_true rfl) rfl) ?_
      refine gm_sz (gm_p_const (pc := 15) (i := .iconst 1) (v := gm_vi 1) (by decide +kernel) (by decide +kernel)) ?_
      exact gm_r_int (pc := 16) (by decide +kernel) (Or.inl (by decide +kernel)) hq
theorem hl_220_3 : gm_hit (gm_ow 220) 5 3 false (gm_hh 220) = some (some 13) := by decide +kernel
theorem hl_220_0 : gm_hit (gm_ow 220) 5 0 false (gm_hh 220) = some (some 17) := by decide +kernel
theorem hl_220 {x0 x1 : Int} (k1 : (1 ≤ 1 ∧ 1 ≤ n) ∧ (K 1).1 = 0 + 4) (h : gm_Wp X LX d bc bs 221 0 (gm_ent 221 [gm_vr 1, gm_vi x0, gm_vi x1]) [] n K R M (hQ [(3, 1), (0, 2)] Q)) : gm_Wp X LX (d + 1) bc bs 220 0 (gm_ent 220 [gm_vr 1, gm_vi x0, gm_vi x1, gm_vr 245]) [] n K R M Q := by
  refine gm_sz (gm_p_load (pc := 0) (i := .aload_n 3) (sr := 2) (j := 3) (by decide +kernel) rfl rfl rfl) ?_
  refine gm_sz (gm_p_const (pc := 1) (i := .iconst 0) (v := gm_vi 0) (by decide +kernel) (by decide +kernel)) ?_
  refine gm_sz (gm_p_load (pc := 2) (i := .aload_n 0) (sr := 2) (j := 0) (by decide +kernel) rfl rfl rfl) ?_
  refine gm_sz (gm_p_load (pc := 3) (i := .iload_n 1) (sr := 0) (j := 1) (by decide +kernel) rfl rfl rfl) ?_
  refine gm_sz (gm_p_load (pc := 4) (i := .iload_n 2) (sr := 0) (j := 2) (by decide +kernel) rfl rfl rfl) ?_
  refine gm_c_virtH (k := 1) (ci := 0) (mj := 221) (ix := 114) (pc := 5) (as := [gm_vi x0, gm_vi x1]) (st := [gm_vi 0, gm_vr 245]) (d' := d) (bc' := bc) (bs' := bs) (by decide +kernel) (by decide +kernel) (by decide +kernel) k1.1 k1.2 (by decide) (by decide +kernel) (show 2 = gm_na 221 by decide +kernel) (fun v hv => by simp only [List.mem_cons, List.not_mem_nil, or_false] at hv; rcases hv with rfl | rfl <;> simp [gm_sort]) (show 2 + 1 ≤ gm_ml 221 by decide +kernel) (Nat.le_of_ble_eq_true rfl) (Nat.le_refl _) (Nat.le_refl _) (Nat.le_refl _) ?_
  refine gm_Wp_mono (fun o n1 K1 R1 M1 hq => ?_) h
  obtain ⟨⟨hn, hK⟩, hq⟩ := hq
  rcases hq with ⟨v, rfl, hq⟩ | ⟨i, hi, rfl, hq⟩
  · show gm_Wp X LX (d + 1) _ _ 220 8 (gm_ent 220 [gm_vr 1, gm_vi x0, gm_vi x1, gm_vr 245]) [gm_vi v, gm_vi 0, gm_vr 245] n1 K1 R1 M1 Q
    refine gm_sz (gm_p_i2l (pc := 8) (by decide +kernel)) ?_
    refine gm_sz (gm_p_last (pc := 9) (k := 245) (by decide +kernel) ⟨by decide, hn⟩ (by rw [hK]) (by rw [hK]; decide)) ?_
    refine gm_sz (gm_p_goto (pc := 10) (off := 11) (by decide +kernel) (by decide)) ?_
    refine gm_sz (gm_p_const (pc := 21) (i := .iconst 0) (v := gm_vi 0) (by decide +kernel) (by decide +kernel)) ?_
    exact gm_r_int (pc := 22) (by decide +kernel) (Or.inl (by decide +kernel)) hq
  · simp only [List.mem_cons, List.not_mem_nil, or_false] at hi
    rcases hi with rfl | rfl
    · show (match gm_hit (gm_ow 220) 5 3 false (gm_hh 220) with
      | some (some h) => gm_Wp X LX (d + 1) _ _ 220 h (gm_ent 220 [gm_vr 1, gm_vi x0, gm_vi x1, gm_vr 245]) [gm_vo 4000] n1 K1 R1 M1 Q
      | some none => Q (.inr 3) n1 K1 R1 M1
      | none => False)
      rw [hl_220_3]
      show gm_Wp X LX (d + 1) _ _ 220 13 (gm_ent 220 [gm_vr 1, gm_vi x0, gm_vi x1, gm_vr 245]) [gm_vo 4000] n1 K1 R1 M1 Q
      refine gm_sz (gm_p_stor (pc := 13) (i := .astore 4) (sr := 2) (j := 4) (by decide +kernel) rfl (show 5 ≤ _ from Nat.le_of_ble_eq_true rfl) rfl) ?_
      refine gm_sz (gm_p_const (pc := 15) (i := .iconst 1) (v := gm_vi 1) (by decide +kernel) (by decide +kernel)) ?_
      exact gm_r_int (pc := 16) (by decide +kernel) (Or.inl (by decide +kernel)) hq
    · show (match gm_hit (gm_ow 220) 5 0 false (gm_hh 220) with
      | some (some h) => gm_Wp X LX (d + 1) _ _ 220 h (gm_ent 220 [gm_vr 1, gm_vi x0, gm_vi x1, gm_vr 245]) [gm_vo 4000] n1 K1 R1 M1 Q
      | some none => Q (.inr 0) n1 K1 R1 M1
      | none => False)
      rw [hl_220_0]
      show gm_Wp X LX (d + 1) _ _ 220 17 (gm_ent 220 [gm_vr 1, gm_vi x0, gm_vi x1, gm_vr 245]) [gm_vo 4000] n1 K1 R1 M1 Q
      refine gm_sz (gm_p_stor (pc := 17) (i := .astore 4) (sr := 2) (j := 4) (by decide +kernel) rfl (show 5 ≤ _ from Nat.le_of_ble_eq_true rfl) rfl) ?_
      refine gm_sz (gm_p_const (pc := 19) (i := .iconst 2) (v := gm_vi 2) (by decide +kernel) (by decide +kernel)) ?_
      exact gm_r_int (pc := 20) (by decide +kernel) (Or.inl (by decide +kernel)) hq
theorem hl_222_0 : gm_hit (gm_ow 222) 4 0 false (gm_hh 222) = some (some 12) := by decide +kernel
theorem hl_222 {x0 : Int} (k1 : (1 ≤ 1 ∧ 1 ≤ n) ∧ (K 1).1 = 0 + 4) (h : gm_Wp X LX d bc bs 223 0 (gm_ent 223 [gm_vr 1, gm_vi x0]) [] n K R M (hQ [(0, 1)] Q)) : gm_Wp X LX (d + 1) bc bs 222 0 (gm_ent 222 [gm_vr 1, gm_vi x0, gm_vr 245]) [] n K R M Q := by
  refine gm_sz (gm_p_load (pc := 0) (i := .aload_n 2) (sr := 2) (j := 2) (by decide +kernel) rfl rfl rfl) ?_
  refine gm_sz (gm_p_const (pc := 1) (i := .iconst 0) (v := gm_vi 0) (by decide +kernel) (by decide +kernel)) ?_
  refine gm_sz (gm_p_load (pc := 2) (i := .aload_n 0) (sr := 2) (j := 0) (by decide +kernel) rfl rfl rfl) ?_
  refine gm_sz (gm_p_load (pc := 3) (i := .iload_n 1) (sr := 0) (j := 1) (by decide +kernel) rfl rfl rfl) ?_
  refine gm_c_virtH (k := 1) (ci := 0) (mj := 223) (ix := 117) (pc := 4) (as := [gm_vi x0]) (st := [gm_vi 0, gm_vr 245]) (d' := d) (bc' := bc) (bs' := bs) (by decide +kernel) (by decide +kernel) (by decide +kernel) k1.1 k1.2 (by decide) (by decide +kernel) (show 1 = gm_na 223 by decide +kernel) (fw_c1 (by simp [gm_sort])) (show 1 + 1 ≤ gm_ml 223 by decide +kernel) (Nat.le_of_ble_eq_true rfl) (Nat.le_refl _) (Nat.le_refl _) (Nat.le_refl _) ?_
  refine gm_Wp_mono (fun o n1 K1 R1 M1 hq => ?_) h
  obtain ⟨⟨hn, hK⟩, hq⟩ := hq
  rcases hq with ⟨v, rfl, hq⟩ | ⟨i, hi, rfl, hq⟩
  · show gm_Wp X LX (d + 1) _ _ 222 7 (gm_ent 222 [gm_vr 1, gm_vi x0, gm_vr 245]) [gm_vi v, gm_vi 0, gm_vr 245] n1 K1 R1 M1 Q
    refine gm_sz (gm_p_i2l (pc := 7) (by decide +kernel)) ?_
    refine gm_sz (gm_p_last (pc := 8) (k := 245) (by decide +kernel) ⟨by decide, hn⟩ (by rw [hK]) (by rw [hK]; decide)) ?_
    refine gm_sz (gm_p_goto (pc := 9) (off := 6) (by decide +kernel) (by decide)) ?_
    refine gm_sz (gm_p_const (pc := 15) (i := .iconst 0) (v := gm_vi 0) (by decide +kernel) (by decide +kernel)) ?_
    exact gm_r_int (pc := 16) (by decide +kernel) (Or.inl (by decide +kernel)) hq
  · simp only [List.mem_cons, List.not_mem_nil, or_false] at hi
    rcases hi with rfl
    · show (match gm_hit (gm_ow 222) 4 0 false (gm_hh 222) with
      | some (some h) => gm_Wp X LX (d + 1) _ _ 222 h (gm_ent 222 [gm_vr 1, gm_vi x0, gm_vr 245]) [gm_vo 4000] n1 K1 R1 M1 Q
      | some none => Q (.inr 0) n1 K1 R1 M1
      | none => False)
      rw [hl_222_0]
      show gm_Wp X LX (d + 1) _ _ 222 12 (gm_ent 222 [gm_vr 1, gm_vi x0, gm_vr 245]) [gm_vo 4000] n1 K1 R1 M1 Q
      refine gm_sz (gm_p_stor (pc := 12) (i := .astore_n 3) (sr := 2) (j := 3) (by decide +kernel) rfl (show 4 ≤ _ from Nat.le_of_ble_eq_true rfl) rfl) ?_
      refine gm_sz (gm_p_const (pc := 13) (i := .iconst 1) (v := gm_vi 1) (by decide +kernel) (by decide +kernel)) ?_
      exact gm_r_int (pc := 14) (by decide +kernel) (Or.inl (by decide +kernel)) hq
theorem hl_224_0 : gm_hit (gm_ow 224) 5 0 false (gm_hh 224) = some (some 13) := by decide +kernel
theorem hl_224 {x0 x1 : Int} (k1 : (1 ≤ 1 ∧ 1 ≤ n) ∧ (K 1).1 = 0 + 4) (h : gm_Wp X LX d bc bs 225 0 (gm_ent 225 [gm_vr 1, gm_vi x0, gm_vi x1]) [] n K R M (hQ [(0, 1)] Q)) : gm_Wp X LX (d + 1) bc bs 224 0 (gm_ent 224 [gm_vr 1, gm_vi x0, gm_vi x1, gm_vr 245]) [] n K R M Q := by
  refine gm_sz (gm_p_load (pc := 0) (i := .aload_n 3) (sr := 2) (j := 3) (by decide +kernel) rfl rfl rfl) ?_
  refine gm_sz (gm_p_const (pc := 1) (i := .iconst 0) (v := gm_vi 0) (by decide +kernel) (by decide +kernel)) ?_
  refine gm_sz (gm_p_load (pc := 2) (i := .aload_n 0) (sr := 2) (j := 0) (by decide +kernel) rfl rfl rfl) ?_
  refine gm_sz (gm_p_load (pc := 3) (i := .iload_n 1) (sr := 0) (j := 1) (by decide +kernel) rfl rfl rfl) ?_
  refine gm_sz (gm_p_load (pc := 4) (i := .iload_n 2) (sr := 0) (j := 2) (by decide +kernel) rfl rfl rfl) ?_
  refine gm_c_virtH (k := 1) (ci := 0) (mj := 225) (ix := 120) (pc := 5) (as := [gm_vi x0, gm_vi x1]) (st := [gm_vi 0, gm_vr 245]) (d' := d) (bc' := bc) (bs' := bs) (by decide +kernel) (by decide +kernel) (by decide +kernel) k1.1 k1.2 (by decide) (by decide +kernel) (show 2 = gm_na 225 by decide +kernel) (fun v hv => by simp only [List.mem_cons, List.not_mem_nil, or_false] at hv; rcases hv with rfl | rfl <;> simp [gm_sort]) (show 2 + 1 ≤ gm_ml 225 by decide +kernel) (Nat.le_of_ble_eq_true rfl) (Nat.le_refl _) (Nat.le_refl _) (Nat.le_refl _) ?_
  refine gm_Wp_mono (fun o n1 K1 R1 M1 hq => ?_) h
  obtain ⟨⟨hn, hK⟩, hq⟩ := hq
  rcases hq with ⟨v, rfl, hq⟩ | ⟨i, hi, rfl, hq⟩
  · show gm_Wp X LX (d + 1) _ _ 224 8 (gm_ent 224 [gm_vr 1, gm_vi x0, gm_vi x1, gm_vr 245]) [gm_vi v, gm_vi 0, gm_vr 245] n1 K1 R1 M1 Q
    refine gm_sz (gm_p_i2l (pc := 8) (by decide +kernel)) ?_
    refine gm_sz (gm_p_last (pc := 9) (k := 245) (by decide +kernel) ⟨by decide, hn⟩ (by rw [hK]) (by rw [hK]; decide)) ?_
    refine gm_sz (gm_p_goto (pc := 10) (off := 7) (by decide +kernel) (by decide)) ?_
    refine gm_sz (gm_p_const (pc := 17) (i := .iconst 0) (v := gm_vi 0) (by decide +kernel) (by decide +kernel)) ?_
    exact gm_r_int (pc := 18) (by decide +kernel) (Or.inl (by decide +kernel)) hq
  · simp only [List.mem_cons, List.not_mem_nil, or_false] at hi
    rcases hi with rfl
    · show (match gm_hit (gm_ow 224) 5 0 false (gm_hh 224) with
      | some (some h) => gm_Wp X LX (d + 1) _ _ 224 h (gm_ent 224 [gm_vr 1, gm_vi x0, gm_vi x1, gm_vr 245]) [gm_vo 4000] n1 K1 R1 M1 Q
      | some none => Q (.inr 0) n1 K1 R1 M1
      | none => False)
      rw [hl_224_0]
      show gm_Wp X LX (d + 1) _ _ 224 13 (gm_ent 224 [gm_vr 1, gm_vi x0, gm_vi x1, gm_vr 245]) [gm_vo 4000] n1 K1 R1 M1 Q
      refine gm_sz (gm_p_stor (pc := 13) (i := .astore 4) (sr := 2) (j := 4) (by decide +kernel) rfl (show 5 ≤ _ from Nat.le_of_ble_eq_true rfl) rfl) ?_
      refine gm_sz (gm_p_const (pc := 15) (i := .iconst 1) (v := gm_vi 1) (by decide +kernel) (by decide +kernel)) ?_
      exact gm_r_int (pc := 16) (by decide +kernel) (Or.inl (by decide +kernel)) hq
end HL14
end
/-! 7c15.wd -/
section
/-! THE WORLD BETWEEN THE CALLS and what is told of it: laws, acts of the class, acts of the reference. -/
/-- the law that a State of the class holds -/
def LAWC (s : Nat) (lw : Option (List lln)) (K : gm_K) (M : gm_M) : Prop := (lw = none → s = 0) ∧ ∀ ls, lw = some ls → ¬ s = 0 ∧ LW ls ∧ ∃ NC : Nat, NC ≤ 400 ∧ K (bg_rho s 247) = (0, NC) ∧ LB NC (M (bg_rho s 247)) (M (bg_rho s 249)) (ls.length : Int) (fun k j => M (bg_rho s k) j) ∧ LC ls (M (bg_rho s 247)) (M (bg_rho s 249))
def slotN (x : Int) (i : Nat) : Nat := 44 + 13 * ((x + 11 - (i : Int)) % 12).toNat
def LWL (la : Nat → Nat) (K : gm_K) (M : gm_M) (lw : Option (List lln)) (A : List (Int → Int)) (im : Option ((Int → Int) × Option (List lln))) : Prop := LAWC (la 3) lw K M ∧ (∀ i : Nat, i < A.length → la (slotN (M 42 1) i) = la 3) ∧ ∀ NI lI, im = some (NI, lI) → LAWC (la 29) lI K M
theorem slot_ss : (List.range 12).all (fun p => decide (44 + 13 * p ∈ bg_ss)) = true := by decide
theorem slot_s {p : Nat} (h : p < 12) : 44 + 13 * p ∈ bg_ss := of_decide_eq_true (List.all_eq_true.mp slot_ss p (List.mem_range.mpr h))
theorem slotN_s {x : Int} {i : Nat} : slotN x i ∈ bg_ss := slot_s (by omega)
section WD15
variable {X : Int → Int} {LX : Nat} {O : gm_Or} {g z g1 : Nat} {la : Nat → Nat} {K K' K1 : gm_K} {R R1 : gm_R} {M M' M1 : gm_M} {S : ck_Sum} {L : gm_L} {st : List gm_V} {Q : gm_Q} {N N0 : Int → Int} {lw lw0 : Option (List lln)} {A A0 A' : List (Int → Int)} {im im0 : Option ((Int → Int) × Option (List lln))} {t w t0 w0 : Int} {f f0 : Int → Int}
theorem lawc_e {s : Nat} (h : LAWC s lw K M) (hs : s ≤ g) (eK : ∀ k, 246 ≤ k → k ≤ 245 + 4 * g → K' k = K k) (eM : ∀ k j, 246 ≤ k → k ≤ 245 + 4 * g → M' k j = M k j) : LAWC s lw K' M' := by
  refine ⟨h.1, fun ls hl => ?_⟩
  obtain ⟨h0, hW, NC, h1, h2, h3, h4⟩ := h.2 ls hl
  have r : ∀ k, 247 ≤ k → k ≤ 249 → 246 ≤ bg_rho s k ∧ bg_rho s k ≤ 245 + 4 * g := fun k k1 k2 => by
    unfold bg_rho
    rw [if_neg (by omega)]
    omega
  have q : ∀ k, 247 ≤ k → k ≤ 249 → M' (bg_rho s k) = M (bg_rho s k) := fun k k1 k2 => funext fun j => eM _ j (r k k1 k2).1 (r k k1 k2).2
  have e7 := q 247 (by decide) (by decide)
  have e8 := q 248 (by decide) (by decide)
  have e9 := q 249 (by decide) (by decide)
  refine ⟨h0, hW, NC, h1, by rw [eK _ (r 247 (by decide) (by decide)).1 (r 247 (by decide) (by decide)).2]; exact h2, ?_, by rw [e7, e9]; exact h4⟩
  unfold LB LM at h3 ⊢
  simpa only [e7, e8, e9] using h3
/-- what a call sees of the class's law -/
theorem cc_w (hb : bg g la K R M) (hz : bs_ok la z g1) (hz3 : ¬ z = 100003) (h : LAWC (la 3) lw K M) (hr : LAWR lw (M 227)) : ∃ (NC : Nat) (C Ln : Int → Int), CC (245 + 4 * g1) (bs_K la K) (bs_R z g1) NC C Ln (M 227) lw ∧ LBX NC C Ln lw (bs_M la M) := by
  have e8 : bs_R z g1 3 ((8 : Nat) : Int) = z := (bc_lf (s := 3) (by decide)).trans (if_pos rfl)
  cases lw with
  | none =>
    refine ⟨0, fun _ => 0, fun _ => 0, ⟨fun _ => ?_, fun ls e => nomatch e⟩, fun ls e => nomatch e⟩
    have h0 := h.1 rfl
    rw [e8]
    rcases hz with a | a | a
    · exact a.1
    · exact absurd a.1 hz3
    · exact absurd h0 a.2.2
  | some ls =>
    obtain ⟨h0, hW, NC, h1, h2, h3, h4⟩ := h.2 ls rfl
    have hz2 : z = 246 ∧ g1 = 1 := by
      rcases hz with a | a | a
      · exact absurd a.2.2 h0
      · exact absurd a.1 hz3
      · exact ⟨a.1, a.2.1⟩
    obtain ⟨rfl, rfl⟩ := hz2
    have hl3 := hb.2.2.2 3 (by decide)
    have hgg := hb.2.2.1 (la 3 - 1) (by omega)
    have er : ∀ t, t < 4 → bg_rho (la 3) (246 + t) = 246 + 4 * (la 3 - 1) + t := fun t h => by unfold bg_rho; rw [if_neg (by omega)]; omega
    obtain ⟨⟨k6, -, k8, k9⟩, -⟩ := hgg
    have q6 : bs_K la K 246 = (14, 0) := by unfold bs_K; rw [show 246 = 246 + 0 by rfl, er 0 (by decide)]; exact k6
    have q8 : bs_K la K 248 = (6, 0) := by unfold bs_K; rw [show 248 = 246 + 2 by rfl, er 2 (by decide)]; exact k8
    have q9 : bs_K la K 249 = (0, 48) := by unfold bs_K; rw [show 249 = 246 + 3 by rfl, er 3 (by decide)]; exact k9
    have r0 : bs_R 246 1 246 ((0 : Nat) : Int) = 248 := by unfold bs_R; rw [bg_no (by decide)]; rfl
    have r1 : bs_R 246 1 246 ((1 : Nat) : Int) = 247 := by unfold bs_R; rw [bg_no (by decide)]; rfl
    have r2 : bs_R 246 1 248 ((2 : Nat) : Int) = 249 := by unfold bs_R; rw [bg_no (by decide)]; rfl
    refine ⟨NC, M (bg_rho (la 3) 247), M (bg_rho (la 3) 249), ⟨(fun e => nomatch e), fun ls2 e => ?_⟩, fun ls2 e => ?_⟩
    · cases e
      exact ⟨e8, ⟨⟨⟨⟨by decide, by decide⟩, by rw [q6]⟩, ⟨⟨by decide, by decide⟩, h2⟩, ⟨⟨by decide, by decide⟩, by rw [q8]⟩, ⟨by decide, by decide⟩, q9⟩, ⟨r0, r1, r2⟩, h1⟩, hW, h4, (hr.2 ls rfl).2.2.1⟩
    · cases e
      exact h3
theorem e0_w (hb : bg g la K R M) (hz : bs_ok la z g1) : E0 (245 + 4 * g1) (bs_K la K) (bs_R z g1) := by
  rcases hz with a | a | a
  · obtain ⟨rfl, rfl, h0⟩ := a
    exact e0F (bs_F0 hb)
  · obtain ⟨rfl, rfl⟩ := a
    exact e0F (bs_F0 hb)
  · obtain ⟨rfl, rfl, h0⟩ := a
    exact e0F (pl_o (bs_F1 hb h0))
theorem cst_w (hb : bg g la K R M) : CST (bs_M la M) := cstF (bs_F0 (z := 0) hb)
theorem ck_le {k : Nat} {j : Int} (h : cK k j) : k < 226 := by unfold cK at h; omega
theorem ck_ge {k : Nat} {j : Int} (h : cK k j) : 1 ≤ k := by unfold cK at h; omega
theorem rk_le {k : Nat} {j : Int} (h : rK k j) : 226 ≤ k ∧ k ≤ 235 := by unfold rK at h; omega
theorem clv_w (hb : bg g la K R M) (hV : CLV N lw A im t w f M) : CLV N lw A im t w f (bs_M la M) := clv_e hV (cst_w hb) (fun k j hk => vM (by have := ck_le hk; omega))
theorem rfv_w (hV : RFV N lw A im t w f M) : RFV N lw A im t w f (bs_M la M) := rfv_e hV (fun k j hk => vM (by have := rk_le hk; omega))
/-- what a call on the class leaves -/
noncomputable def DQ (n : Nat) (K : gm_K) (u : Option gm_V) (ov : Option Int) (RR : gm_R → gm_M → Prop) (N : Int → Int) (lw : Option (List lln)) (A : List (Int → Int)) (im : Option ((Int → Int) × Option (List lln))) (t w : Int) (f : Int → Int) : gm_Q := fun o n1 K1 R1 M1 => (n1 = n ∧ K1 = K) ∧ o = .inl u ∧ (∀ v, ov = some v → M1 245 0 = gm_w v) ∧ CLV N lw A im t w f M1 ∧ RR R1 M1
/-- rows of the class: cells below 226, and 245 -/
noncomputable def w_x (O : gm_Or) (z g1 k1 : Nat) (t : Bool) (S : ck_Sum) : Bool := bc_ok O z g1 S && (bc_args S k1 t && (decide (S.1.1 + 1 ≤ 280 ∧ S.1.2.1 ≤ 6 ∧ S.1.2.2 ≤ 600) && S.2.2.2.2.1.1.all fun w => decide (w.1 < 226 ∨ w.1 = 245)))
/-- rows of the reference: cells 226 to 244 -/
noncomputable def w_m (S : ck_Sum) : Bool := bc_ok p2_O 100003 0 S && (bc_args S 226 false && (decide (S.1.1 + 1 ≤ 280 ∧ S.1.2.1 ≤ 6 ∧ S.1.2.2 ≤ 600) && S.2.2.2.2.1.1.all fun w => decide (w.1 = 0 ∨ (226 ≤ w.1 ∧ w.1 ≤ 244))))
theorem bg_oldM {k : Nat} {j : Int} (h1 : 246 ≤ k) (h2 : k ≤ 245 + 4 * g) : bg_M g M M' k j = M k j := by unfold bg_M; rw [if_neg (by omega), if_pos h2]
/-- behind a call on the class: what is told is told of the world -/
noncomputable def wx_K (X : Int → Int) (LX bc bs pc : Nat) (L : gm_L) (st : List gm_V) (Q : gm_Q) (g z g1 : Nat) (la : Nat → Nat) (K : gm_K) (M : gm_M) (u : Option gm_V) (ov : Option Int) (RR : gm_R → gm_M → Prop) (N : Int → Int) (lw : Option (List lln)) (A : List (Int → Int)) (im : Option ((Int → Int) × Option (List lln))) (t w : Int) (f : Int → Int) (N0 : Int → Int) (lw0 : Option (List lln)) (A0 : List (Int → Int)) (im0 : Option ((Int → Int) × Option (List lln))) (t0 w0 : Int) (f0 : Int → Int) : Prop := ∀ (R1 : gm_R) (M1 : gm_M) (K2 : gm_K) (R2 : gm_R) (M2 : gm_M), RR R1 M1 → bg g (bg_la la g 0 R1) K2 R2 M2 → (∀ k, 246 ≤ k → k ≤ 245 + 4 * g → K2 k = K k) → (∀ k j, 246 ≤ k → k ≤ 245 + 4 * g → M2 k j = M k j) → M2 42 1 = M1 42 1 → (∀ v, ov = some v → Int64.ofInt (M2 245 0) = Int64.ofInt (gm_w v)) → CLV N lw A im t w f M2 → RFV N0 lw0 A0 im0 t0 w0 f0 M2 → gm_Wp X LX 280 (bc - 6) (bs - 600) 370 pc L (u.toList ++ st) (245 + 4 * g) K2 R2 M2 Q
theorem wx_s {bc bs pc k1 : Nat} {tt : Bool} {u : Option gm_V} {ov : Option Int} {RR : gm_R → gm_M → Prop} (hb : bg g la K R M) (hz : bs_ok la z g1) (hg : g < 10000) (hO : ∀ n K R M, gm_Fx O n K R M → gm_Fx p2_O n K R M) (hck : w_x O z g1 k1 tt S = true) (hRA : RA N lw A im t w f) (hRf : RFV N0 lw0 A0 im0 t0 w0 f0 M) (hu : u = none ∨ ∃ x, u = some (gm_vi x)) (hRR : ∀ R1 M1, RR R1 M1 → rvR z g1 R1) (k : wx_K X LX bc bs pc L st Q g z g1 la K M u ov RR N lw A im t w f N0 lw0 A0 im0 t0 w0 f0) : bc_KM X LX 280 (bc - 6) (bs - 600) 370 pc L st Q O z g1 g la K R M S (DQ (245 + 4 * g1) (bs_K la K) u ov RR N lw A im t w f) := by
  simp only [w_x, Bool.and_eq_true, decide_eq_true_eq] at hck
  obtain ⟨-, -, -, hW⟩ := hck
  have hg1 : g1 ≤ 1 := by rcases hz with h | h | h <;> omega
  intro o n1 K1 R1 M1 σ o2 n2 K2 R2 M2 q1 q2 ho hdt
  obtain ⟨⟨rfl, rfl⟩, rfl, hv, hV, hrr⟩ := q1
  obtain ⟨hF2, hfr, -⟩ := q2
  have hF2 := hO _ _ _ _ hF2
  have hk12 : ∀ k, 1 ≤ k → k ≤ 245 + 4 * g1 → bs_K la K k = K2 k := fun k _ hk => (hfr.2.1 k hk).symm
  refine ⟨hk12, ?_⟩
  have hW2 : S.2.2.2.2.1.1.all (fun w => decide (w.1 ≤ 245)) = true := List.all_eq_true.mpr fun w hw => by
    have := of_decide_eq_true (List.all_eq_true.mp hW w hw)
    exact decide_eq_true (by omega)
  have hrt := rt_of (K1 := bs_K la K) (M1 := bs_M la M) (Ka := bs_K la K) (Ma := M1) hg1 (hRR R1 M1 hrr) hF2 hfr hW2 (fun _ _ => rfl)
  refine bg_oweX (c := 0) hb hz hg hrt hu (fun hb2 => ?_)
  have hV2 := clv_dt hdt (by omega) hk12 hF2 hRA hV
  have e : ∀ k j, k ≤ 245 → bg_M g M (mxM (245 + 4 * g1) M2 M1) k j = M2 k j := fun k j hk => (bg_Ms hk j).trans (mxM_o (by omega))
  have hx : 0 ≤ M1 42 1 ∧ M1 42 1 < 12 := his_nx hV.1.2
  refine k R1 M1 _ _ _ hrr hb2 (fun k k1 k2 => bg_Ks k2) (fun k j k1 k2 => bg_oldM k1 k2) ?_ (fun v hv2 => ?_) ?_ ?_
  · rw [e 42 1 (by decide)]
    have e42 : M2 42 1 = gm_w (M1 42 1) := dw_f hdt (by omega) hk12 hF2 dt_c2.1
    rw [e42]
    exact dw_i ⟨by omega, by omega⟩
  · rw [e 245 0 (by decide), ← hv v hv2]
    have k245 := hF2.1 245 (2, 1) (by decide +kernel)
    have ee := hk12 245 (by decide) (by omega)
    exact ((hdt 245 (by decide) (by omega) ee).2.1 (by rw [ee, k245.2.2]) 0 (by rw [ee, k245.2.2]; decide)).symm
  · exact clv_e hV2 (cstF hb2.2.1) (fun k j hk => e k j (by have := ck_le hk; omega))
  · refine rfv_e hRf (fun k j hk => ?_)
    have hk := rk_le hk
    rw [e k j (by omega), hfr.2.2.1 k j (by omega) (fun w hw hh => by have := of_decide_eq_true (List.all_eq_true.mp hW w hw); omega)]
    exact vM (by omega)
/-- what a call on the reference leaves -/
noncomputable def RDQ (n : Nat) (K : gm_K) (R : gm_R) (P : Option gm_V → Prop) (oc : Option Int) (N : Int → Int) (lw : Option (List lln)) (A : List (Int → Int)) (im : Option ((Int → Int) × Option (List lln))) (t w : Int) (f : Int → Int) : gm_Q := fun o n1 K1 R1 M1 => (n1 = n ∧ K1 = K ∧ R1 = R) ∧ (∃ u, o = .inl u ∧ P u) ∧ (∀ c, oc = some c → gm_ir c ∧ M1 226 0 = c) ∧ RFV N lw A im t w f M1
noncomputable def wm_K (X : Int → Int) (LX bc bs pc : Nat) (L : gm_L) (st : List gm_V) (Q : gm_Q) (g : Nat) (la : Nat → Nat) (K : gm_K) (M : gm_M) (P : Option gm_V → Prop) (oc : Option Int) (N : Int → Int) (lw : Option (List lln)) (A : List (Int → Int)) (im : Option ((Int → Int) × Option (List lln))) (t w : Int) (f : Int → Int) : Prop := ∀ (u : Option gm_V) (la2 : Nat → Nat) (K2 : gm_K) (R2 : gm_R) (M2 : gm_M), P u → (∀ s ∈ bg_ss, la2 s = la s) → bg g la2 K2 R2 M2 → (∀ k, 246 ≤ k → k ≤ 245 + 4 * g → K2 k = K k) → (∀ k j, 246 ≤ k → k ≤ 245 + 4 * g → M2 k j = M k j) → M2 42 1 = M 42 1 → M2 245 0 = M 245 0 → (∀ c, oc = some c → M2 226 0 = c) → CLV N lw A im t w f M2 → RFV N lw A im t w f M2 → gm_Wp X LX 280 (bc - 6) (bs - 600) 370 pc L (u.toList ++ st) (245 + 4 * g) K2 R2 M2 Q
theorem wm_c1 : tyF 226 11 0 = true := by decide +kernel
theorem wm_s {bc bs pc : Nat} {P : Option gm_V → Prop} {oc : Option Int} (hb : bg g la K R M) (hg : g < 10000) (hck : w_m S = true) (hRA : RA N lw A im t w f) (hC : CLV N lw A im t w f M) (hP : ∀ u, P u → u = none ∨ ∃ x, u = some (gm_vi x)) (k : wm_K X LX bc bs pc L st Q g la K M P oc N lw A im t w f) : bc_KM X LX 280 (bc - 6) (bs - 600) 370 pc L st Q p2_O 100003 0 g la K R M S (RDQ 245 (bs_K la K) (bs_R 100003 0) P oc N lw A im t w f) := by
  have hz : bs_ok la 100003 0 := Or.inr (Or.inl ⟨rfl, rfl⟩)
  simp only [w_m, Bool.and_eq_true, decide_eq_true_eq] at hck
  obtain ⟨-, -, -, hW⟩ := hck
  intro o n1 K1 R1 M1 σ o2 n2 K2 R2 M2 q1 q2 ho hdt
  obtain ⟨⟨rfl, rfl, rfl⟩, ⟨u, rfl, hu⟩, hc, hV⟩ := q1
  obtain ⟨hF2, hfr, -⟩ := q2
  have hk12 : ∀ k, 1 ≤ k → k ≤ 245 + 4 * 0 → bs_K la K k = K2 k := fun k _ hk => (hfr.2.1 k hk).symm
  refine ⟨hk12, ?_⟩
  have hW2 : S.2.2.2.2.1.1.all (fun w => decide (w.1 ≤ 245)) = true := List.all_eq_true.mpr fun w hw => by
    have := of_decide_eq_true (List.all_eq_true.mp hW w hw)
    exact decide_eq_true (by omega)
  have hrt := rt_of (K1 := bs_K la K) (M1 := bs_M la M) (Ka := bs_K la K) (Ma := M1) (g1 := 0) (by decide) (rvR_0 hz) hF2 hfr hW2 (fun _ _ => rfl)
  refine bg_oweX (c := 0) hb hz hg hrt (hP u hu) (fun hb2 => ?_)
  have hV2 := rfv_dt hdt (by omega) hk12 hF2 hRA hV
  have e : ∀ k j, k ≤ 245 → bg_M g M (mxM (245 + 4 * 0) M2 M1) k j = M2 k j := fun k j hk => (bg_Ms hk j).trans (mxM_o (by omega))
  have e2 : ∀ k j, (1 ≤ k ∧ k < 226) ∨ k = 245 → bg_M g M (mxM (245 + 4 * 0) M2 M1) k j = M k j := fun k j hk => by
    rw [e k j (by omega), hfr.2.2.1 k j (by omega) (fun w hw hh => by have := of_decide_eq_true (List.all_eq_true.mp hW w hw); omega)]
    exact vM (by omega)
  refine k u _ _ _ _ hu (fun s hs => bg_dcs hz hs) hb2 (fun k k1 k2 => bg_Ks k2) (fun k j k1 k2 => bg_oldM k1 k2) (e2 42 1 (by decide)) (e2 245 0 (by decide)) (fun c hc2 => ?_) ?_ ?_
  · obtain ⟨c1, c2⟩ := hc c hc2
    rw [e 226 0 (by decide)]
    have := dw_f hdt (by decide) hk12 hF2 wm_c1
    rw [show ((0 : Nat) : Int) = 0 by rfl] at this
    rw [this, c2]
    exact dw_i c1
  · exact clv_e hC (cstF hb2.2.1) (fun k j hk => e2 k j (Or.inl ⟨ck_ge hk, ck_le hk⟩))
  · exact rfv_e hV2 (fun k j hk => e k j (by have := rk_le hk; omega))
end WD15
end
