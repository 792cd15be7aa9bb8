/-! 7c14.hl -/
section
/-! ONE HEAP TOLD TWICE: the law's own methods, by what they call. -/
section HL14
variable {X : Int → Int} {LX d bc bs n : Nat} {K : gm_K} {R : gm_R} {M : gm_M} {Q : gm_Q}
theorem hl_70_0 : gm_hit (gm_ow 70) 3 0 false (gm_hh 70) = some (some 11) := by decide +kernel
theorem hl_70_1 : gm_hit (gm_ow 70) 3 1 false (gm_hh 70) = some (some 14) := by decide +kernel
theorem hl_70 (k1 : (1 ≤ 1 ∧ 1 ≤ n) ∧ (K 1).1 = 0 + 4) (h : gm_Wp X LX d bc bs 71 0 (gm_ent 71 [gm_vr 1]) [] n K R M (hQ [(0, 1), (1, 2)] Q)) : gm_Wp X LX (d + 1) bc bs 70 0 (gm_ent 70 [gm_vr 1, gm_vr 245]) [] n K R M Q := by
  refine gm_sz (gm_p_load (pc := 0) (i := .aload_n 1) (sr := 2) (j := 1) (by decide +kernel) rfl rfl rfl) ?_
  refine gm_sz (gm_p_const (pc := 1) (i := .iconst 0) (v := gm_vi 0) (by decide +kernel) (by decide +kernel)) ?_
  refine gm_sz (gm_p_load (pc := 2) (i := .aload_n 0) (sr := 2) (j := 0) (by decide +kernel) rfl rfl rfl) ?_
  refine gm_c_virtH (k := 1) (ci := 0) (mj := 71) (ix := 7) (pc := 3) (as := []) (st := [gm_vi 0, gm_vr 245]) (d' := d) (bc' := bc) (bs' := bs) (by decide +kernel) (by decide +kernel) (by decide +kernel) k1.1 k1.2 (by decide) (by decide +kernel) (show 0 = gm_na 71 by decide +kernel) fw_c0 (show 0 + 1 ≤ gm_ml 71 by decide +kernel) (Nat.le_of_ble_eq_true rfl) (Nat.le_refl _) (Nat.le_refl _) (Nat.le_refl _) ?_
  refine gm_Wp_mono (fun o n1 K1 R1 M1 hq => ?_) h
  obtain ⟨⟨hn, hK⟩, hq⟩ := hq
  rcases hq with ⟨v, rfl, hq⟩ | ⟨i, hi, rfl, hq⟩
  · show gm_Wp X LX (d + 1) _ _ 70 6 (gm_ent 70 [gm_vr 1, gm_vr 245]) [gm_vi v, gm_vi 0, gm_vr 245] n1 K1 R1 M1 Q
    refine gm_sz (gm_p_i2l (pc := 6) (by decide +kernel)) ?_
    refine gm_sz (gm_p_last (pc := 7) (k := 245) (by decide +kernel) ⟨by decide, hn⟩ (by rw [hK]) (by rw [hK]; decide)) ?_
    refine gm_sz (gm_p_goto (pc := 8) (off := 9) (by decide +kernel) (by decide)) ?_
    refine gm_sz (gm_p_const (pc := 17) (i := .iconst 0) (v := gm_vi 0) (by decide +kernel) (by decide +kernel)) ?_
    exact gm_r_int (pc := 18) (by decide +kernel) (Or.inl (by decide +kernel)) hq
  · simp only [List.mem_cons, List.not_mem_nil, or_false] at hi
    rcases hi with rfl | rfl
    · show (match gm_hit (gm_ow 70) 3 0 false (gm_hh 70) with
      | some (some h) => gm_Wp X LX (d + 1) _ _ 70 h (gm_ent 70 [gm_vr 1, gm_vr 245]) [gm_vo 4000] n1 K1 R1 M1 Q
      | some none => Q (.inr 0) n1 K1 R1 M1
      | none => False)
      rw [hl_70_0]
      show gm_Wp X LX (d + 1) _ _ 70 11 (gm_ent 70 [gm_vr 1, gm_vr 245]) [gm_vo 4000] n1 K1 R1 M1 Q
      refine gm_sz (gm_p_stor (pc := 11) (i := .astore_n 2) (sr := 2) (j := 2) (by decide +kernel) rfl (show 3 ≤ _ from Nat.le_of_ble_eq_true rfl) rfl) ?_
      refine gm_sz (gm_p_const (pc := 12) (i := .iconst 1) (v := gm_vi 1) (by decide +kernel) (by decide +kernel)) ?_
      exact gm_r_int (pc := 13) (by decide +kernel) (Or.inl (by decide +kernel)) hq
    · show (match gm_hit (gm_ow 70) 3 1 false (gm_hh 70) with
      | some (some h) => gm_Wp X LX (d + 1) _ _ 70 h (gm_ent 70 [gm_vr 1, gm_vr 245]) [gm_vo 4000] n1 K1 R1 M1 Q
      | some none => Q (.inr 1) n1 K1 R1 M1
      | none => False)
      rw [hl_70_1]
      show gm_Wp X LX (d + 1) _ _ 70 14 (gm_ent 70 [gm_vr 1, gm_vr 245]) [gm_vo 4000] n1 K1 R1 M1 Q
      refine gm_sz (gm_p_stor (pc := 14) (i := .astore_n 2) (sr := 2) (j := 2) (by decide +kernel) rfl (show 3 ≤ _ from Nat.le_of_ble_eq_true rfl) rfl) ?_
      refine gm_sz (gm_p_const (pc := 15) (i := .iconst 2) (v := gm_vi 2) (by decide +kernel) (by decide +kernel)) ?_
      exact gm_r_int (pc := 16) (by decide +kernel) (Or.inl (by decide +kernel)) hq
theorem hl_122_0 : gm_hit (gm_ow 122) 3 0 false (gm_hh 122) = some (some 11) := by decide +kernel
theorem hl_122 (k1 : (1 ≤ 1 ∧ 1 ≤ n) ∧ (K 1).1 = 0 + 4) (h : gm_Wp X LX d bc bs 123 0 (gm_ent 123 [gm_vr 1]) [] n K R M (hQ [(0, 1)] Q)) : gm_Wp X LX (d + 1) bc bs 122 0 (gm_ent 122 [gm_vr 1, gm_vr 245]) [] n K R M Q := by
  refine gm_sz (gm_p_load (pc := 0) (i := .aload_n 1) (sr := 2) (j := 1) (by decide +kernel) rfl rfl rfl) ?_
  refine gm_sz (gm_p_const (pc := 1) (i := .iconst 0) (v := gm_vi 0) (by decide +kernel) (by decide +kernel)) ?_
  refine gm_sz (gm_p_load (pc := 2) (i := .aload_n 0) (sr := 2) (j := 0) (by decide +kernel) rfl rfl rfl) ?_
  refine gm_c_virtH (k := 1) (ci := 0) (mj := 123) (ix := 17) (pc := 3) (as := []) (st := [gm_vi 0, gm_vr 245]) (d' := d) (bc' := bc) (bs' := bs) (by decide +kernel) (by decide +kernel) (by decide +kernel) k1.1 k1.2 (by decide) (by decide +kernel) (show 0 = gm_na 123 by decide +kernel) fw_c0 (show 0 + 1 ≤ gm_ml 123 by decide +kernel) (Nat.le_of_ble_eq_true rfl) (Nat.le_refl _) (Nat.le_refl _) (Nat.le_refl _) ?_
  refine gm_Wp_mono (fun o n1 K1 R1 M1 hq => ?_) h
  obtain ⟨⟨hn, hK⟩, hq⟩ := hq
  rcases hq with ⟨v, rfl, hq⟩ | ⟨i, hi, rfl, hq⟩
  · show gm_Wp X LX (d + 1) _ _ 122 6 (gm_ent 122 [gm_vr 1, gm_vr 245]) [gm_vi v, gm_vi 0, gm_vr 245] n1 K1 R1 M1 Q
    refine gm_sz (gm_p_i2l (pc := 6) (by decide +kernel)) ?_
    refine gm_sz (gm_p_last (pc := 7) (k := 245) (by decide +kernel) ⟨by decide, hn⟩ (by rw [hK]) (by rw [hK]; decide)) ?_
    refine gm_sz (gm_p_goto (pc := 8) (off := 6) (by decide +kernel) (by decide)) ?_
    refine gm_sz (gm_p_const (pc := 14) (i := .iconst 0) (v := gm_vi 0) (by decide +kernel) (by decide +kernel)) ?_
    exact gm_r_int (pc := 15) (by decide +kernel) (Or.inl (by decide +kernel)) hq
  · simp only [List.mem_cons, List.not_mem_nil, or_false] at hi
    rcases hi with rfl
    · show (match gm_hit (gm_ow 122) 3 0 false (gm_hh 122) with
      | some (some h) => gm_Wp X LX (d + 1) _ _ 122 h (gm_ent 122 [gm_vr 1, gm_vr 245]) [gm_vo 4000] n1 K1 R1 M1 Q
      | some none => Q (.inr 0) n1 K1 R1 M1
      | none => False)
      rw [hl_122_0]
      show gm_Wp X LX (d + 1) _ _ 122 11 (gm_ent 122 [gm_vr 1, gm_vr 245]) [gm_vo 4000] n1 K1 R1 M1 Q
      refine gm_sz (gm_p_stor (pc := 11) (i := .astore_n 2) (sr := 2) (j := 2) (by decide +kernel) rfl (show 3 ≤ _ from Nat.le_of_ble_eq_true rfl) rfl) ?_
      refine gm_sz (gm_p_const (pc := 12) (i := .iconst 1) (v := gm_vi 1) (by decide +kernel) (by decide +kernel)) ?_
      exact gm_r_int (pc := 13) (by decide +kernel) (Or.inl (by decide +kernel)) hq
theorem hl_127_0 : gm_hit (gm_ow 127) 4 0 false (gm_hh 127) = some (some 12) := by decide +kernel
theorem hl_127 {x0 : Int} (k1 : (1 ≤ 1 ∧ 1 ≤ n) ∧ (K 1).1 = 0 + 4) (h : gm_Wp X LX d bc bs 128 0 (gm_ent 128 [gm_vr 1, gm_vi x0]) [] n K R M (hQ [(0, 1)] Q)) : gm_Wp X LX (d + 1) bc bs 127 0 (gm_ent 127 [gm_vr 1, gm_vi x0, gm_vr 245]) [] n K R M Q := by
  refine gm_sz (gm_p_load (pc := 0) (i := .aload_n 2) (sr := 2) (j := 2) (by decide +kernel) rfl rfl rfl) ?_
  refine gm_sz (gm_p_const (pc := 1) (i := .iconst 0) (v := gm_vi 0) (by decide +kernel) (by decide +kernel)) ?_
  refine gm_sz (gm_p_load (pc := 2) (i := .aload_n 0) (sr := 2) (j := 0) (by decide +kernel) rfl rfl rfl) ?_
  refine gm_sz (gm_p_load (pc := 3) (i := .iload_n 1) (sr := 0) (j := 1) (by decide +kernel) rfl rfl rfl) ?_
  refine gm_c_virtH (k := 1) (ci := 0) (mj := 128) (ix := 20) (pc := 4) (as := [gm_vi x0]) (st := [gm_vi 0, gm_vr 245]) (d' := d) (bc' := bc) (bs' := bs) (by decide +kernel) (by decide +kernel) (by decide +kernel) k1.1 k1.2 (by decide) (by decide +kernel) (show 1 = gm_na 128 by decide +kernel) (fw_c1 (by simp [gm_sort])) (show 1 + 1 ≤ gm_ml 128 by decide +kernel) (Nat.le_of_ble_eq_true rfl) (Nat.le_refl _) (Nat.le_refl _) (Nat.le_refl _) ?_
  refine gm_Wp_mono (fun o n1 K1 R1 M1 hq => ?_) h
  obtain ⟨⟨hn, hK⟩, hq⟩ := hq
  rcases hq with ⟨v, rfl, hq⟩ | ⟨i, hi, rfl, hq⟩
  · show gm_Wp X LX (d + 1) _ _ 127 7 (gm_ent 127 [gm_vr 1, gm_vi x0, gm_vr 245]) [gm_vi v, gm_vi 0, gm_vr 245] n1 K1 R1 M1 Q
    refine gm_sz (gm_p_i2l (pc := 7) (by decide +kernel)) ?_
    refine gm_sz (gm_p_last (pc := 8) (k := 245) (by decide +kernel) ⟨by decide, hn⟩ (by rw [hK]) (by rw [hK]; decide)) ?_
    refine gm_sz (gm_p_goto (pc := 9) (off := 6) (by decide +kernel) (by decide)) ?_
    refine gm_sz (gm_p_const (pc := 15) (i := .iconst 0) (v := gm_vi 0) (by decide +kernel) (by decide +kernel)) ?_
    exact gm_r_int (pc := 16) (by decide +kernel) (Or.inl (by decide +kernel)) hq
  · simp only [List.mem_cons, List.not_mem_nil, or_false] at hi
    rcases hi with rfl
    · show (match gm_hit (gm_ow 127) 4 0 false (gm_hh 127) with
      | some (some h) => gm_Wp X LX (d + 1) _ _ 127 h (gm_ent 127 [gm_vr 1, gm_vi x0, gm_vr 245]) [gm_vo 4000] n1 K1 R1 M1 Q
      | some none => Q (.inr 0) n1 K1 R1 M1
      | none => False)
      rw [hl_127_0]
      show gm_Wp X LX (d + 1) _ _ 127 12 (gm_ent 127 [gm_vr 1, gm_vi x0, gm_vr 245]) [gm_vo 4000] n1 K1 R1 M1 Q
      refine gm_sz (gm_p_stor (pc := 12) (i := .astore_n 3) (sr := 2) (j := 3) (by decide +kernel) rfl (show 4 ≤ _ from Nat.le_of_ble_eq_true rfl) rfl) ?_
      refine gm_sz (gm_p_const (pc := 13) (i := .iconst 1) (v := gm_vi 1) (by decide +kernel) (by decide +kernel)) ?_
      exact gm_r_int (pc := 14) (by decide +kernel) (Or.inl (by decide +kernel)) hq
theorem hl_130_3 : gm_hit (gm_ow 130) 5 3 false (gm_hh 130) = some (some 13) := by decide +kernel
theorem hl_130 {x0 x1 : Int} (k1 : (1 ≤ 1 ∧ 1 ≤ n) ∧ (K 1).1 = 0 + 4) (h : gm_Wp X LX d bc bs 131 0 (gm_ent 131 [gm_vr 1, gm_vi x0, gm_vi x1]) [] n K R M (hQ [(3, 1)] Q)) : gm_Wp X LX (d + 1) bc bs 130 0 (gm_ent 130 [gm_vr 1, gm_vi x0, gm_vi x1, gm_vr 245]) [] n K R M Q := by
  refine gm_sz (gm_p_load (pc := 0) (i := .aload_n 3) (sr := 2) (j := 3) (by decide +kernel) rfl rfl rfl) ?_
  refine gm_sz (gm_p_const (pc := 1) (i := .iconst 0) (v := gm_vi 0) (by decide +kernel) (by decide +kernel)) ?_
  refine gm_sz (gm_p_load (pc := 2) (i := .aload_n 0) (sr := 2) (j := 0) (by decide +kernel) rfl rfl rfl) ?_
  refine gm_sz (gm_p_load (pc := 3) (i := .iload_n 1) (sr := 0) (j := 1) (by decide +kernel) rfl rfl rfl) ?_
  refine gm_sz (gm_p_load (pc := 4) (i := .iload_n 2) (sr := 0) (j := 2) (by decide +kernel) rfl rfl rfl) ?_
  refine gm_c_virtH (k := 1) (ci := 0) (mj := 131) (ix := 24) (pc := 5) (as := [gm_vi x0, gm_vi x1]) (st := [gm_vi 0, gm_vr 245]) (d' := d) (bc' := bc) (bs' := bs) (by decide +kernel) (by decide +kernel) (by decide +kernel) k1.1 k1.2 (by decide) (by decide +kernel) (show 2 = gm_na 131 by decide +kernel) (fun v hv => by simp only [List.mem_cons, List.not_mem_nil, or_false] at hv; rcases hv with rfl | rfl <;> simp [gm_sort]) (show 2 + 1 ≤ gm_ml 131 by decide +kernel) (Nat.le_of_ble_eq_true rfl) (Nat.le_refl _) (Nat.le_refl _) (Nat.le_refl _) ?_
  refine gm_Wp_mono (fun o n1 K1 R1 M1 hq => ?_) h
  obtain ⟨⟨hn, hK⟩, hq⟩ := hq
  rcases hq with ⟨v, rfl, hq⟩ | ⟨i, hi, rfl, hq⟩
  · show gm_Wp X LX (d + 1) _ _ 130 8 (gm_ent 130 [gm_vr 1, gm_vi x0, gm_vi x1, gm_vr 245]) [gm_vi v, gm_vi 0, gm_vr 245] n1 K1 R1 M1 Q
    refine gm_sz (gm_p_i2l (pc := 8) (by decide +kernel)) ?_
    refine gm_sz (gm_p_last (pc := 9) (k := 245) (by decide +kernel) ⟨by decide, hn⟩ (by rw [hK]) (by rw [hK]; decide)) ?_
    refine gm_sz (gm_p_goto (pc := 10) (off := 7) (by decide +kernel) (by decide)) ?_
    refine gm_sz (gm_p_const (pc := 17) (i := .iconst 0) (v := gm_vi 0) (by decide +kernel) (by decide +kernel)) ?_
    exact gm_r_int (pc := 18) (by decide +kernel) (Or.inl (by decide +kernel)) hq
  · simp only [List.mem_cons, List.not_mem_nil, or_false] at hi
    rcases hi with rfl
    · show (match gm_hit (gm_ow 130) 5 3 false (gm_hh 130) with
      | some (some h) => gm_Wp X LX (d + 1) _ _ 130 h (gm_ent 130 [gm_vr 1, gm_vi x0, gm_vi x1, gm_vr 245]) [gm_vo 4000] n1 K1 R1 M1 Q
      | some none => Q (.inr 3) n1 K1 R1 M1
      | none => False)
      rw [hl_130_3]
      show gm_Wp X LX (d + 1) _ _ 130 13 (gm_ent 130 [gm_vr 1, gm_vi x0, gm_vi x1, gm_vr 245]) [gm_vo 4000] n1 K1 R1 M1 Q
      refine gm_sz (gm_p_stor (pc := 13) (i := .astore 4) (sr := 2) (j := 4) (by decide +kernel) rfl (show 5 ≤ _ from Nat.le_of_ble_eq_true rfl) rfl) ?_
      refine gm_sz (gm_p_const (pc := 15) (i := .iconst 1) (v := gm_vi 1) (by decide +kernel) (by decide +kernel)) ?_
      exact gm_r_int (pc := 16) (by decide +kernel) (Or.inl (by decide +kernel)) hq
theorem hl_135_3 : gm_hit (gm_ow 135) 7 3 false (gm_hh 135) = some (some 15) := by decide +kernel
theorem hl_135_0 : gm_hit (gm_ow 135) 7 0 false (gm_hh 135) = some (some 19) := by decide +kernel
theorem hl_135 {x0 x1 x2 : Int} (k1 : (1 ≤ 1 ∧ 1 ≤ n) ∧ (K 1).1 = 0 + 4) (h : gm_Wp X LX d bc bs 136 0 (gm_ent 136 [gm_vr 1, gm_vi x0, gm_vi x1, gm_vi x2]) [] n K R M (hQ [(3, 1), (0, 2)] Q)) : gm_Wp X LX (d + 1) bc bs 135 0 (gm_ent 135 [gm_vr 1, gm_vi x0, gm_vi x1, gm_vi x2, gm_vr 245]) [] n K R M Q := by
  refine gm_sz (gm_p_load (pc := 0) (i := .aload 4) (sr := 2) (j := 4) (by decide +kernel) rfl rfl rfl) ?_
  refine gm_sz (gm_p_const (pc := 2) (i := .iconst 0) (v := gm_vi 0) (by decide +kernel) (by decide +kernel)) ?_
  refine gm_sz (gm_p_load (pc := 3) (i := .aload_n 0) (sr := 2) (j := 0) (by decide +kernel) rfl rfl rfl) ?_
  refine gm_sz (gm_p_load (pc := 4) (i := .iload_n 1) (sr := 0) (j := 1) (by decide +kernel) rfl rfl rfl) ?_
  refine gm_sz (gm_p_load (pc := 5) (i := .iload_n 2) (sr := 0) (j := 2) (by decide +kernel) rfl rfl rfl) ?_
  refine gm_sz (gm_p_load (pc := 6) (i := .iload_n 3) (sr := 0) (j := 3) (by decide +kernel) rfl rfl rfl) ?_
  refine gm_c_virtH (k := 1) (ci := 0) (mj := 136) (ix := 30) (pc := 7) (as := [gm_vi x0, gm_vi x1, gm_vi x2]) (st := [gm_vi 0, gm_vr 245]) (d' := d) (bc' := bc) (bs' := bs) (by decide +kernel) (by decide +kernel) (by decide +kernel) k1.1 k1.2 (by decide) (by decide +kernel) (show 3 = gm_na 136 by decide +kernel) (fun v hv => by simp only [List.mem_cons, List.not_mem_nil, or_false] at hv; rcases hv with rfl | rfl | rfl <;> simp [gm_sort]) (show 3 + 1 ≤ gm_ml 136 by decide +kernel) (Nat.le_of_ble_eq_true rfl) (Nat.le_refl _) (Nat.le_refl _) (Nat.le_refl _) ?_
  refine gm_Wp_mono (fun o n1 K1 R1 M1 hq => ?_) h
  obtain ⟨⟨hn, hK⟩, hq⟩ := hq
  rcases hq with ⟨v, rfl, hq⟩ | ⟨i, hi, rfl, hq⟩
  · show gm_Wp X LX (d + 1) _ _ 135 10 (gm_ent 135 [gm_vr 1, gm_vi x0, gm_vi x1, gm_vi x2, gm_vr 245]) [gm_vi v, gm_vi 0, gm_vr 245] n1 K1 R1 M1 Q
    refine gm_sz (gm_p_i2l (pc := 10) (by decide +kernel)) ?_
    refine gm_sz (gm_p_last (pc := 11) (k := 245) (by decide +kernel) ⟨by decide, hn⟩ (by rw [hK]) (by rw [hK]; decide)) ?_
    refine gm_sz (gm_p_goto (pc := 12) (off := 11) (by decide +kernel) (by decide)) ?_
    refine gm_sz (gm_p_const (pc := 23) (i := .iconst 0) (v := gm_vi 0) (by decide +kernel) (by decide +kernel)) ?_
    exact gm_r_int (pc := 24) (by decide +kernel) (Or.inl (by decide +kernel)) hq
  · simp only [List.mem_cons, List.not_mem_nil, or_false] at hi
    rcases hi with rfl | rfl
    · show (match gm_hit (gm_ow 135) 7 3 false (gm_hh 135) with
      | some (some h) => gm_Wp X LX (d + 1) _ _ 135 h (gm_ent 135 [gm_vr 1, gm_vi x0, gm_vi x1, gm_vi x2, gm_vr 245]) [gm_vo 4000] n1 K1 R1 M1 Q
      | some none => Q (.inr 3) n1 K1 R1 M1
      | none => False)
      rw [hl_135_3]
      show gm_Wp X LX (d + 1) _ _ 135 15 (gm_ent 135 [gm_vr 1, gm_vi x0, gm_vi x1, gm_vi x2, gm_vr 245]) [gm_vo 4000] n1 K1 R1 M1 Q
      refine gm_sz (gm_p_stor (pc := 15) (i := .astore 5) (sr := 2) (j := 5) (by decide +kernel) rfl (show 6 ≤ _ from Nat.le_of_ble_eq_true rfl) rfl) ?_
      refine gm_sz (gm_p_const (pc := 17) (i := .iconst 1) (v := gm_vi 1) (by decide +kernel) (by decide +kernel)) ?_
      exact gm_r_int (pc := 18) (by decide +kernel) (Or.inl (by decide +kernel)) hq
    · show (match gm_hit (gm_ow 135) 7 0 false (gm_hh 135) with
      | some (some h) => gm_Wp X LX (d + 1) _ _ 135 h (gm_ent 135 [gm_vr 1, gm_vi x0, gm_vi x1, gm_vi x2, gm_vr 245]) [gm_vo 4000] n1 K1 R1 M1 Q
      | some none => Q (.inr 0) n1 K1 R1 M1
      | none => False)
      rw [hl_135_0]
      show gm_Wp X LX (d + 1) _ _ 135 19 (gm_ent 135 [gm_vr 1, gm_vi x0, gm_vi x1, gm_vi x2, gm_vr 245]) [gm_vo 4000] n1 K1 R1 M1 Q
      refine gm_sz (gm_p_stor (pc := 19) (i := .astore 5) (sr := 2) (j := 5) (by decide +kernel) rfl (show 6 ≤ _ from Nat.le_of_ble_eq_true rfl) rfl) ?_
      refine gm_sz (gm_p_const (pc := 21) (i := .iconst 2) (v := gm_vi 2) (by decide +kernel) (by decide +kernel)) ?_
      exact gm_r_int (pc := 22) (by decide +kernel) (Or.inl (by decide +kernel)) hq
theorem hl_137_3 : gm_hit (gm_ow 137) 5 3 false (gm_hh 137) = some (some 13) := by decide +kernel
theorem hl_137_4 : gm_hit (gm_ow 137) 5 4 false (gm_hh 137) = some (some 17) := by decide +kernel
theorem hl_137 {x0 x1 : Int} (k1 : (1 ≤ 1 ∧ 1 ≤ n) ∧ (K 1).1 = 0 + 4) (h : gm_Wp X LX d bc bs 138 0 (gm_ent 138 [gm_vr 1, gm_vi x0, gm_vi x1]) [] n K R M (hQ [(3, 1), (4, 2)] Q)) : gm_Wp X LX (d + 1) bc bs 137 0 (gm_ent 137 [gm_vr 1, gm_vi x0, gm_vi x1, gm_vr 245]) [] n K R M Q := by
  refine gm_sz (gm_p_load (pc := 0) (i := .aload_n 3) (sr := 2) (j := 3) (by decide +kernel) rfl rfl rfl) ?_
  refine gm_sz (gm_p_const (pc := 1) (i := .iconst 0) (v := gm_vi 0) (by decide +kernel) (by decide +kernel)) ?_
  refine gm_sz (gm_p_load (pc := 2) (i := .aload_n 0) (sr := 2) (j := 0) (by decide +kernel) rfl rfl rfl) ?_
  refine gm_sz (gm_p_load (pc := 3) (i := .iload_n 1) (sr := 0) (j := 1) (by decide +kernel) rfl rfl rfl) ?_
  refine gm_sz (gm_p_load (pc := 4) (i := .iload_n 2) (sr := 0) (j := 2) (by decide +kernel) rfl rfl rfl) ?_
  refine gm_c_virtH (k := 1) (ci := 0) (mj := 138) (ix := 34) (pc := 5) (as := [gm_vi x0, gm_vi x1]) (st := [gm_vi 0, gm_vr 245]) (d' := d) (bc' := bc) (bs' := bs) (by decide +kernel) (by decide +kernel) (by decide +kernel) k1.1 k1.2 (by decide) (by decide +kernel) (show 2 = gm_na 138 by decide +kernel) (fun v hv => by simp only [List.mem_cons, List.not_mem_nil, or_false] at hv; rcases hv with rfl | rfl <;> simp [gm_sort]) (show 2 + 1 ≤ gm_ml 138 by decide +kernel) (Nat.le_of_ble_eq_true rfl) (Nat.le_refl _) (Nat.le_refl _) (Nat.le_refl _) ?_
  refine gm_Wp_mono (fun o n1 K1 R1 M1 hq => ?_) h
  obtain ⟨⟨hn, hK⟩, hq⟩ := hq
  rcases hq with ⟨v, rfl, hq⟩ | ⟨i, hi, rfl, hq⟩
  · show gm_Wp X LX (d + 1) _ _ 137 8 (gm_ent 137 [gm_vr 1, gm_vi x0, gm_vi x1, gm_vr 245]) [gm_vi v, gm_vi 0, gm_vr 245] n1 K1 R1 M1 Q
    refine gm_sz (gm_p_i2l (pc := 8) (by decide +kernel)) ?_
    refine gm_sz (gm_p_last (pc := 9) (k := 245) (by decide +kernel) ⟨by decide, hn⟩ (by rw [hK]) (by rw [hK]; decide)) ?_
    refine gm_sz (gm_p_goto (pc := 10) (off := 11) (by decide +kernel) (by decide)) ?_
    refine gm_sz (gm_p_const (pc := 21) (i := .iconst 0) (v := gm_vi 0) (by decide +kernel) (by decide +kernel)) ?_
    exact gm_r_int (pc := 22) (by decide +kernel) (Or.inl (by decide +kernel)) hq
  · simp only [List.mem_cons, List.not_mem_nil, or_false] at hi
    rcases hi with rfl | rfl
    · show (match gm_hit (gm_ow 137) 5 3 false (gm_hh 137) with
      | some (some h) => gm_Wp X LX (d + 1) _ _ 137 h (gm_ent 137 [gm_vr 1, gm_vi x0, gm_vi x1, gm_vr 245]) [gm_vo 4000] n1 K1 R1 M1 Q
      | some none => Q (.inr 3) n1 K1 R1 M1
      | none => False)
      rw [hl_137_3]
      show gm_Wp X LX (d + 1) _ _ 137 13 (gm_ent 137 [gm_vr 1, gm_vi x0, gm_vi x1, gm_vr 245]) [gm_vo 4000] n1 K1 R1 M1 Q
      refine gm_sz (gm_p_stor (pc := 13) (i := .astore 4) (sr := 2) (j := 4) (by decide +kernel) rfl (show 5 ≤ _ from Nat.le_of_ble_eq_true rfl) rfl) ?_
      refine gm_sz (gm_p_const (pc := 15) (i := .iconst 1) (v := gm_vi 1) (by decide +kernel) (by decide +kernel)) ?_
      exact gm_r_int (pc := 16) (by decide +kernel) (Or.inl (by decide +kernel)) hq
    · show (match gm_hit (gm_ow 137) 5 4 false (gm_hh 137) with
      | some (some h) => gm_Wp X LX (d + 1) _ _ 137 h (gm_ent 137 [gm_vr 1, gm_vi x0, gm_vi x1, gm_vr 245]) [gm_vo 4000] n1 K1 R1 M1 Q
      | some none => Q (.inr 4) n1 K1 R1 M1
      | none => False)
      rw [hl_137_4]
      show gm_Wp X LX (d + 1) _ _ 137 17 (gm_ent 137 [gm_vr 1, gm_vi x0, gm_vi x1, gm_vr 245]) [gm_vo 4000] n1 K1 R1 M1 Q
      refine gm_sz (gm_p_stor (pc := 17) (i := .astore 4) (sr := 2) (j := 4) (by decide +kernel) rfl (show 5 ≤ _ from Nat.le_of_ble_eq_true rfl) rfl) ?_
      refine gm_sz (gm_p_const (pc := 19) (i := .iconst 2) (v := gm_vi 2) (by decide +kernel) (by decide +kernel)) ?_
      exact gm_r_int (pc := 20) (by decide +kernel) (Or.inl (by decide +kernel)) hq
theorem hl_141_3 : gm_hit (gm_ow 141) 5 3 false (gm_hh 141) = some (some 13) := by decide +kernel
theorem hl_141_4 : gm_hit (gm_ow 141) 5 4 false (gm_hh 141) = some (some 17) := by decide +kernel
theorem hl_141 {x0 x1 : Int} (k1 : (1 ≤ 1 ∧ 1 ≤ n) ∧ (K 1).1 = 0 + 4) (h : gm_Wp X LX d bc bs 142 0 (gm_ent 142 [gm_vr 1, gm_vi x0, gm_vi x1]) [] n K R M (hQ [(3, 1), (4, 2)] Q)) : gm_Wp X LX (d + 1) bc bs 141 0 (gm_ent 141 [gm_vr 1, gm_vi x0, gm_vi x1, gm_vr 245]) [] n K R M Q := by
  refine gm_sz (gm_p_load (pc := 0) (i := .aload_n 3) (sr := 2) (j := 3) (by decide +kernel) rfl rfl rfl) ?_
  refine gm_sz (gm_p_const (pc := 1) (i := .iconst 0) (v := gm_vi 0) (by decide +kernel) (by decide +kernel)) ?_
  refine gm_sz (gm_p_load (pc := 2) (i := .aload_n 0) (sr := 2) (j := 0) (by decide +kernel) rfl rfl rfl) ?_
  refine gm_sz (gm_p_load (pc := 3) (i := .iload_n 1) (sr := 0) (j := 1) (by decide +kernel) rfl rfl rfl) ?_
  refine gm_sz (gm_p_load (pc := 4) (i := .iload_n 2) (sr := 0) (j := 2) (by decide +kernel) rfl rfl rfl) ?_
  refine gm_c_virtH (k := 1) (ci := 0) (mj := 142) (ix := 39) (pc := 5) (as := [gm_vi x0, gm_vi x1]) (st := [gm_vi 0, gm_vr 245]) (d' := d) (bc' := bc) (bs' := bs) (by decide +kernel) (by decide +kernel) (by decide +kernel) k1.1 k1.2 (by decide) (by decide +kernel) (show 2 = gm_na 142 by decide +kernel) (fun v hv => by simp only [List.mem_cons, List.not_mem_nil, or_false] at hv; rcases hv with rfl | rfl <;> simp [gm_sort]) (show 2 + 1 ≤ gm_ml 142 by decide +kernel) (Nat.le_of_ble_eq_true rfl) (Nat.le_refl _) (Nat.le_refl _) (Nat.le_refl _) ?_
  refine gm_Wp_mono (fun o n1 K1 R1 M1 hq => ?_) h
  obtain ⟨⟨hn, hK⟩, hq⟩ := hq
  rcases hq with ⟨v, rfl, hq⟩ | ⟨i, hi, rfl, hq⟩
  · show gm_Wp X LX (d + 1) _ _ 141 8 (gm_ent 141 [gm_vr 1, gm_vi x0, gm_vi x1, gm_vr 245]) [gm_vi v, gm_vi 0, gm_vr 245] n1 K1 R1 M1 Q
    refine gm_sz (gm_p_i2l (pc := 8) (by decide +kernel)) ?_
    refine gm_sz (gm_p_last (pc := 9) (k := 245) (by decide +kernel) ⟨by decide, hn⟩ (by rw [hK]) (by rw [hK]; decide)) ?_
    refine gm_sz (gm_p_goto (pc := 10) (off := 11) (by decide +kernel) (by decide)) ?_
    refine gm_sz (gm_p_const (pc := 21) (i := .iconst 0) (v := gm_vi 0) (by decide +kernel) (by decide +kernel)) ?_
    exact gm_r_int (pc := 22) (by decide +kernel) (Or.inl (by decide +kernel)) hq
  · simp only [List.mem_cons, List.not_mem_nil, or_false] at hi
    rcases hi with rfl | rfl
    · show (match gm_hit (gm_ow 141) 5 3 false (gm_hh 141) with
      | some (some h) => gm_Wp X LX (d + 1) _ _ 141 h (gm_ent 141 [gm_vr 1, gm_vi x0, gm_vi x1, gm_vr 245]) [gm_vo 4000] n1 K1 R1 M1 Q
      | some none => Q (.inr 3) n1 K1 R1 M1
      | none => False)
      rw [hl_141_3]
      show gm_Wp X LX (d + 1) _ _ 141 13 (gm_ent 141 [gm_vr 1, gm_vi x0, gm_vi x1, gm_vr 245]) [gm_vo 4000] n1 K1 R1 M1 Q
      refine gm_sz (gm_p_stor (pc := 13) (i := .astore 4) (sr := 2) (j := 4) (by decide +kernel) rfl (show 5 ≤ _ from Nat.le_of_ble_eq_true rfl) rfl) ?_
      refine gm_sz (gm_p_const (pc := 15) (i := .iconst 1) (v := gm_vi 1) (by decide +kernel) (by decide +kernel)) ?_
      exact gm_r_int (pc := 16) (by decide +kernel) (Or.inl (by decide +kernel)) hq
    · show (match gm_hit (gm_ow 141) 5 4 false (gm_hh 141) with
      | some (some h) => gm_Wp X LX (d + 1) _ _ 141 h (gm_ent 141 [gm_vr 1, gm_vi x0, gm_vi x1, gm_vr 245]) [gm_vo 4000] n1 K1 R1 M1 Q
      | some none => Q (.inr 4) n1 K1 R1 M1
      | none => False)
      rw [hl_141_4]
      show gm_Wp X LX (d + 1) _ _ 141 17 (gm_ent 141 [gm_vr 1, gm_vi x0, gm_vi x1, gm_vr 245]) [gm_vo 4000] n1 K1 R1 M1 Q
      refine gm_sz (gm_p_stor (pc := 17) (i := .astore 4) (sr := 2) (j := 4) (by decide +kernel) rfl (show 5 ≤ _ from Nat.le_of_ble_eq_true rfl) rfl) ?_
      refine gm_sz (gm_p_const (pc := 19) (i := .iconst 2) (v := gm_vi 2) (by decide +kernel) (by decide +kernel)) ?_
      exact gm_r_int (pc := 20) (by decide +kernel) (Or.inl (by decide +kernel)) hq
theorem hl_146_3 : gm_hit (gm_ow 146) 5 3 false (gm_hh 146) = some (some 13) := by decide +kernel
theorem hl_146_0 : gm_hit (gm_ow 146) 5 0 false (gm_hh 146) = some (some 17) := by decide +kernel
theorem hl_146 {x0 x1 : Int} (k1 : (1 ≤ 1 ∧ 1 ≤ n) ∧ (K 1).1 = 0 + 4) (h : gm_Wp X LX d bc bs 147 0 (gm_ent 147 [gm_vr 1, gm_vi x0, gm_vi x1]) [] n K R M (hQ [(3, 1), (0, 2)] Q)) : gm_Wp X LX (d + 1) bc bs 146 0 (gm_ent 146 [gm_vr 1, gm_vi x0, gm_vi x1, gm_vr 245]) [] n K R M Q := by
  refine gm_sz (gm_p_load (pc := 0) (i := .aload_n 3) (sr := 2) (j := 3) (by decide +kernel) rfl rfl rfl) ?_
  refine gm_sz (gm_p_const (pc := 1) (i := .iconst 0) (v := gm_vi 0) (by decide +kernel) (by decide +kernel)) ?_
  refine gm_sz (gm_p_load (pc := 2) (i := .aload_n 0) (sr := 2) (j := 0) (by decide +kernel) rfl rfl rfl) ?_
  refine gm_sz (gm_p_load (pc := 3) (i := .iload_n 1) (sr := 0) (j := 1) (by decide +kernel) rfl rfl rfl) ?_
  refine gm_sz (gm_p_load (pc := 4) (i := .iload_n 2) (sr := 0) (j := 2) (by decide +kernel) rfl rfl rfl) ?_
  refine gm_c_virtH (k := 1) (ci := 0) (mj := 147) (ix := 42) (pc := 5) (as := [gm_vi x0, gm_vi x1]) (st := [gm_vi 0, gm_vr 245]) (d' := d) (bc' := bc) (bs' := bs) (by decide +kernel) (by decide +kernel) (by decide +kernel) k1.1 k1.2 (by decide) (by decide +kernel) (show 2 = gm_na 147 by decide +kernel) (fun v hv => by simp only [List.mem_cons, List.not_mem_nil, or_false] at hv; rcases hv with rfl | rfl <;> simp [gm_sort]) (show 2 + 1 ≤ gm_ml 147 by decide +kernel) (Nat.le_of_ble_eq_true rfl) (Nat.le_refl _) (Nat.le_refl _) (Nat.le_refl _) ?_
  refine gm_Wp_mono (fun o n1 K1 R1 M1 hq => ?_) h
  obtain ⟨⟨hn, hK⟩, hq⟩ := hq
  rcases hq with ⟨v, rfl, hq⟩ | ⟨i, hi, rfl, hq⟩
  · show gm_Wp X LX (d + 1) _ _ 146 8 (gm_ent 146 [gm_vr 1, gm_vi x0, gm_vi x1, gm_vr 245]) [gm_vi v, gm_vi 0, gm_vr 245] n1 K1 R1 M1 Q
    refine gm_sz (gm_p_i2l (pc := 8) (by decide +kernel)) ?_
    refine gm_sz (gm_p_last (pc := 9) (k := 245) (by decide +kernel) ⟨by decide, hn⟩ (by rw [hK]) (by rw [hK]; decide)) ?_
    refine gm_sz (gm_p_goto (pc := 10) (off := 11) (by decide +kernel) (by decide)) ?_
    refine gm_sz (gm_p_const (pc := 21) (i := .iconst 0) (v := gm_vi 0) (by decide +kernel) (by decide +kernel)) ?_
    exact gm_r_int (pc := 22) (by decide +kernel) (Or.inl (by decide +kernel)) hq
  · simp only [List.mem_cons, List.not_mem_nil, or_false] at hi
    rcases hi with rfl | rfl
    · show (match gm_hit (gm_ow 146) 5 3 false (gm_hh 146) with
      | some (some h) => gm_Wp X LX (d + 1) _ _ 146 h (gm_ent 146 [gm_vr 1, gm_vi x0, gm_vi x1, gm_vr 245]) [gm_vo 4000] n1 K1 R1 M1 Q
      | some none => Q (.inr 3) n1 K1 R1 M1
      | none => False)
      rw [hl_146_3]
      show gm_Wp X LX (d + 1) _ _ 146 13 (gm_ent 146 [gm_vr 1, gm_vi x0, gm_vi x1, gm_vr 245]) [gm_vo 4000] n1 K1 R1 M1 Q
      refine gm_sz (gm_p_stor (pc := 13) (i := .astore 4) (sr := 2) (j := 4) (by decide +kernel) rfl (show 5 ≤ _ from Nat.le_of_ble_eq_true rfl) rfl) ?_
      refine gm_sz (gm_p_const (pc := 15) (i := .iconst 1) (v := gm_vi 1) (by decide +kernel) (by decide +kernel)) ?_
      exact gm_r_int (pc := 16) (by decide +kernel) (Or.inl (by decide +kernel)) hq
    · show (match gm_hit (gm_ow 146) 5 0 false (gm_hh 146) with
      | some (some h) => gm_Wp X LX (d + 1) _ _ 146 h (gm_ent 146 [gm_vr 1, gm_vi x0, gm_vi x1, gm_vr 245]) [gm_vo 4000] n1 K1 R1 M1 Q
      | some none => Q (.inr 0) n1 K1 R1 M1
      | none => False)
      rw [hl_146_0]
      show gm_Wp X LX (d + 1) _ _ 146 17 (gm_ent 146 [gm_vr 1, gm_vi x0, gm_vi x1, gm_vr 245]) [gm_vo 4000] n1 K1 R1 M1 Q
      refine gm_sz (gm_p_stor (pc := 17) (i := .astore 4) (sr := 2) (j := 4) (by decide +kernel) rfl (show 5 ≤ _ from Nat.le_of_ble_eq_true rfl) rfl) ?_
      refine gm_sz (gm_p_const (pc := 19) (i := .iconst 2) (v := gm_vi 2) (by decide +kernel) (by decide +kernel)) ?_
      exact gm_r_int (pc := 20) (by decide +kernel) (Or.inl (by decide +kernel)) hq
theorem hl_149_3 : gm_hit (gm_ow 149) 5 3 false (gm_hh 149) = some (some 13) := by decide +kernel
theorem hl_149_0 : gm_hit (gm_ow 149) 5 0 false (gm_hh 149) = some (some 17) := by decide +kernel
theorem hl_149 {x0 x1 : Int} (k1 : (1 ≤ 1 ∧ 1 ≤ n) ∧ (K 1).1 = 0 + 4) (h : gm_Wp X LX d bc bs 150 0 (gm_ent 150 [gm_vr 1, gm_vi x0, gm_vi x1]) [] n K R M (hQ [(3, 1), (0, 2)] Q)) : gm_Wp X LX (d + 1) bc bs 149 0 (gm_ent 149 [gm_vr 1, gm_vi x0, gm_vi x1, gm_vr 245]) [] n K R M Q := by
  refine gm_sz (gm_p_load (pc := 0) (i := .aload_n 3) (sr := 2) (j := 3) (by decide +kernel) rfl rfl rfl) ?_
  refine gm_sz (gm_p_const (pc := 1) (i := .iconst 0) (v := gm_vi 0) (by decide +kernel) (by decide +kernel)) ?_
  refine gm_sz (gm_p_load (pc := 2) (i := .aload_n 0) (sr := 2) (j := 0) (by decide +kernel) rfl rfl rfl) ?_
  refine gm_sz (gm_p_load (pc := 3) (i := .iload_n 1) (sr := 0) (j := 1) (by decide +kernel) rfl rfl rfl) ?_
  refine gm_sz (gm_p_load (pc := 4) (i := .iload_n 2) (sr := 0) (j := 2) (by decide +kernel) rfl rfl rfl) ?_
  refine gm_c_virtH (k := 1) (ci := 0) (mj := 150) (ix := 45) (pc := 5) (as := [gm_vi x0, gm_vi x1]) (st := [gm_vi 0, gm_vr 245]) (d' := d) (bc' := bc) (bs' := bs) (by decide +kernel) (by decide +kernel) (by decide +kernel) k1.1 k1.2 (by decide) (by decide +kernel) (show 2 = gm_na 150 by decide +kernel) (fun v hv => by simp only [List.mem_cons, List.not_mem_nil, or_false] at hv; rcases hv with rfl | rfl <;> simp [gm_sort]) (show 2 + 1 ≤ gm_ml 150 by decide +kernel) (Nat.le_of_ble_eq_true rfl) (Nat.le_refl _) (Nat.le_refl _) (Nat.le_refl _) ?_
  refine gm_Wp_mono (fun o n1 K1 R1 M1 hq => ?_) h
  obtain ⟨⟨hn, hK⟩, hq⟩ := hq
  rcases hq with ⟨v, rfl, hq⟩ | ⟨i, hi, rfl, hq⟩
  · show gm_Wp X LX (d + 1) _ _ 149 8 (gm_ent 149 [gm_vr 1, gm_vi x0, gm_vi x1, gm_vr 245]) [gm_vi v, gm_vi 0, gm_vr 245] n1 K1 R1 M1 Q
    refine gm_sz (gm_p_i2l (pc := 8) (by decide +kernel)) ?_
    refine gm_sz (gm_p_last (pc := 9) (k := 245) (by decide +kernel) ⟨by decide, hn⟩ (by rw [hK]) (by rw [hK]; decide)) ?_
    refine gm_sz (gm_p_goto (pc := 10) (off := 11) (by decide +kernel) (by decide)) ?_
    refine gm_sz (gm_p_const (pc := 21) (i := .iconst 0) (v := gm_vi 0) (by decide +kernel) (by decide +kernel)) ?_
    exact gm_r_int (pc := 22) (by decide +kernel) (Or.inl (by decide +kernel)) hq
  · simp only [List.mem_cons, List.not_mem_nil, or_false] at hi
    rcases hi with rfl | rfl
    · show (match gm_hit (gm_ow 149) 5 3 false (gm_hh 149) with
      | some (some h) => gm_Wp X LX (d + 1) _ _ 149 h (gm_ent 149 [gm_vr 1, gm_vi x0, gm_vi x1, gm_vr 245]) [gm_vo 4000] n1 K1 R1 M1 Q
      | some none => Q (.inr 3) n1 K1 R1 M1
      | none => False)
      rw [hl_149_3]
      show gm_Wp X LX (d + 1) _ _ 149 13 (gm_ent 149 [gm_vr 1, gm_vi x0, gm_vi x1, gm_vr 245]) [gm_vo 4000] n1 K1 R1 M1 Q
      refine gm_sz (gm_p_stor (pc := 13) (i := .astore 4) (sr := 2) (j := 4) (by decide +kernel) rfl (show 5 ≤ _ from Nat.le_of_ble_eq_true rfl) rfl) ?_
      refine gm_sz (gm_p_const (pc := 15) (i := .iconst 1) (v := gm_vi 1) (by decide +kernel) (by decide +kernel)) ?_
      exact gm_r_int (pc := 16) (by decide +kernel) (Or.inl (by decide +kernel)) hq
    · show (match gm_hit (gm_ow 149) 5 0 false (gm_hh 149) with
      | some (some h) => gm_Wp X LX (d + 1) _ _ 149 h (gm_ent 149 [gm_vr 1, gm_vi x0, gm_vi x1, gm_vr 245]) [gm_vo 4000] n1 K1 R1 M1 Q
      | some none => Q (.inr 0) n1 K1 R1 M1
      | none => False)
      rw [hl_149_0]
      show gm_Wp X LX (d + 1) _ _ 149 17 (gm_ent 149 [gm_vr 1, gm_vi x0, gm_vi x1, gm_vr 245]) [gm_vo 4000] n1 K1 R1 M1 Q
      refine gm_sz (gm_p_stor (pc := 17) (i := .astore 4) (sr := 2) (j := 4) (by decide +kernel) rfl (show 5 ≤ _ from Nat.le_of_ble_eq_true rfl) rfl) ?_
      refine gm_sz (gm_p_const (pc := 19) (i := .iconst 2) (v := gm_vi 2) (by decide +kernel) (by decide +kernel)) ?_
      exact gm_r_int (pc := 20) (by decide +kernel) (Or.inl (by decide +kernel)) hq
theorem hl_151_3 : gm_hit (gm_ow 151) 5 3 false (gm_hh 151) = some (some 13) := by decide +kernel
theorem hl_151_0 : gm_hit (gm_ow 151) 5 0 false (gm_hh 151) = some (some 17) := by decide +kernel
theorem hl_151_1 : gm_hit (gm_ow 151) 5 1 false (gm_hh 151) = some (some 21) := by decide +kernel
theorem hl_151 {x0 x1 : Int} (k1 : (1 ≤ 1 ∧ 1 ≤ n) ∧ (K 1).1 = 0 + 4) (h : gm_Wp X LX d bc bs 152 0 (gm_ent 152 [gm_vr 1, gm_vi x0, gm_vi x1]) [] n K R M (hQ [(3, 1), (0, 2), (1, 3)] Q)) : gm_Wp X LX (d + 1) bc bs 151 0 (gm_ent 151 [gm_vr 1, gm_vi x0, gm_vi x1, gm_vr 245]) [] n K R M Q := by
  refine gm_sz (gm_p_load (pc := 0) (i := .aload_n 3) (sr := 2) (j := 3) (by decide +kernel) rfl rfl rfl) ?_
  refine gm_sz (gm_p_const (pc := 1) (i := .iconst 0) (v := gm_vi 0) (by decide +kernel) (by decide +kernel)) ?_
  refine gm_sz (gm_p_load (pc := 2) (i := .aload_n 0) (sr := 2) (j := 0) (by decide +kernel) rfl rfl rfl) ?_
  refine gm_sz (gm_p_load (pc := 3) (i := .iload_n 1) (sr := 0) (j := 1) (by decide +kernel) rfl rfl rfl) ?_
  refine gm_sz (gm_p_load (pc := 4) (i := .iload_n 2) (sr := 0) (j := 2) (by decide +kernel) rfl rfl rfl) ?_
  refine gm_c_virtH (k := 1) (ci := 0) (mj := 152) (ix := 48) (pc := 5) (as := [gm_vi x0, gm_vi x1]) (st := [gm_vi 0, gm_vr 245]) (d' := d) (bc' := bc) (bs' := bs) (by decide +kernel) (by decide +kernel) (by decide +kernel) k1.1 k1.2 (by decide) (by decide +kernel) (show 2 = gm_na 152 by decide +kernel) (fun v hv => by simp only [List.mem_cons, List.not_mem_nil, or_false] at hv; rcases hv with rfl | rfl <;> simp [gm_sort]) (show 2 + 1 ≤ gm_ml 152 by decide +kernel) (Nat.le_of_ble_eq_true rfl) (Nat.le_refl _) (Nat.le_refl _) (Nat.le_refl _) ?_
  refine gm_Wp_mono (fun o n1 K1 R1 M1 hq => ?_) h
  obtain ⟨⟨hn, hK⟩, hq⟩ := hq
  rcases hq with ⟨v, rfl, hq⟩ | ⟨i, hi, rfl, hq⟩
  · show gm_Wp X LX (d + 1) _ _ 151 8 (gm_ent 151 [gm_vr 1, gm_vi x0, gm_vi x1, gm_vr 245]) [gm_vi v, gm_vi 0, gm_vr 245] n1 K1 R1 M1 Q
    refine gm_sz (gm_p_i2l (pc := 8) (by decide +kernel)) ?_
    refine gm_sz (gm_p_last (pc := 9) (k := 245) (by decide +kernel) ⟨by decide, hn⟩ (by rw [hK]) (by rw [hK]; decide)) ?_
    refine gm_sz (gm_p_goto (pc := 10) (off := 15) (by decide +kernel) (by decide)) ?_
    refine gm_sz (gm_p_const (pc := 25) (i := .iconst 0) (v := gm_vi 0) (by decide +kernel) (by decide +kernel)) ?_
    exact gm_r_int (pc := 26) (by decide +kernel) (Or.inl (by decide +kernel)) hq
  · simp only [List.mem_cons, List.not_mem_nil, or_false] at hi
    rcases hi with rfl | rfl | rfl
    · show (match gm_hit (gm_ow 151) 5 3 false (gm_hh 151) with
      | some (some h) => gm_Wp X LX (d + 1) _ _ 151 h (gm_ent 151 [gm_vr 1, gm_vi x0, gm_vi x1, gm_vr 245]) [gm_vo 4000] n1 K1 R1 M1 Q
      | some none => Q (.inr 3) n1 K1 R1 M1
      | none => False)
      rw [hl_151_3]
      show gm_Wp X LX (d + 1) _ _ 151 13 (gm_ent 151 [gm_vr 1, gm_vi x0, gm_vi x1, gm_vr 245]) [gm_vo 4000] n1 K1 R1 M1 Q
      refine gm_sz (gm_p_stor (pc := 13) (i := .astore 4) (sr := 2) (j := 4) (by decide +kernel) rfl (show 5 ≤ _ from Nat.le_of_ble_eq_true rfl) rfl) ?_
      refine gm_sz (gm_p_const (pc := 15) (i := .iconst 1) (v := gm_vi 1) (by decide +kernel) (by decide +kernel)) ?_
      exact gm_r_int (pc := 16) (by decide +kernel) (Or.inl (by decide +kernel)) hq
    · show (match gm_hit (gm_ow 151) 5 0 false (gm_hh 151) with
      | some (some h) => gm_Wp X LX (d + 1) _ _ 151 h (gm_ent 151 [gm_vr 1, gm_vi x0, gm_vi x1, gm_vr 245]) [gm_vo 4000] n1 K1 R1 M1 Q
      | some none => Q (.inr 0) n1 K1 R1 M1
      | none => False)
      rw [hl_151_0]
      show gm_Wp X LX (d + 1) _ _ 151 17 (gm_ent 151 [gm_vr 1, gm_vi x0, gm_vi x1, gm_vr 245]) [gm_vo 4000] n1 K1 R1 M1 Q
      refine gm_sz (gm_p_stor (pc := 17) (i := .astore 4) (sr := 2) (j := 4) (by decide +kernel) rfl (show 5 ≤ _ from Nat.le_of_ble_eq_true rfl) rfl) ?_
      refine gm_sz (gm_p_const (pc := 19) (i := .iconst 2) (v := gm_vi 2) (by decide +kernel) (by decide +kernel)) ?_
      exact gm_r_int (pc := 20) (by decide +kernel) (Or.inl (by decide +kernel)) hq
    · show (match gm_hit (gm_ow 151) 5 1 false (gm_hh 151) with
      | some (some h) => gm_Wp X LX (d + 1) _ _ 151 h (gm_ent 151 [gm_vr 1, gm_vi x0, gm_vi x1, gm_vr 245]) [gm_vo 4000] n1 K1 R1 M1 Q
      | some none => Q (.inr 1) n1 K1 R1 M1
      | none => False)
      rw [hl_151_1]
      show gm_Wp X LX (d + 1) _ _ 151 21 (gm_ent 151 [gm_vr 1, gm_vi x0, gm_vi x1, gm_vr 245]) [gm_vo 4000] n1 K1 R1 M1 Q
      refine gm_sz (gm_p_stor (pc := 21) (i := .astore 4) (sr := 2) (j := 4) (by decide +kernel) rfl (show 5 ≤ _ from Nat.le_of_ble_eq_true rfl) rfl) ?_
      refine gm_sz (gm_p_const (pc := 23) (i := .iconst 3) (v := gm_vi 3) (by decide +kernel) (by decide +kernel)) ?_
      exact gm_r_int (pc := 24) (by decide +kernel) (Or.inl (by decide +kernel)) hq
theorem hl_155_3 : gm_hit (gm_ow 155) 5 3 false (gm_hh 155) = some (some 13) := by decide +kernel
theorem hl_155 {x0 x1 : Int} (k1 : (1 ≤ 1 ∧ 1 ≤ n) ∧ (K 1).1 = 0 + 4) (h : gm_Wp X LX d bc bs 156 0 (gm_ent 156 [gm_vr 1, gm_vi x0, gm_vi x1]) [] n K R M (hQ [(3, 1)] Q)) : gm_Wp X LX (d + 1) bc bs 155 0 (gm_ent 155 [gm_vr 1, gm_vi x0, gm_vi x1, gm_vr 245]) [] n K R M Q := by
  refine gm_sz (gm_p_load (pc := 0) (i := .aload_n 3) (sr := 2) (j := 3) (by decide +kernel) rfl rfl rfl) ?_
  refine gm_sz (gm_p_const (pc := 1) (i := .iconst 0) (v := gm_vi 0) (by decide +kernel) (by decide +kernel)) ?_
  refine gm_sz (gm_p_load (pc := 2) (i := .aload_n 0) (sr := 2) (j := 0) (by decide +kernel) rfl rfl rfl) ?_
  refine gm_sz (gm_p_load (pc := 3) (i := .iload_n 1) (sr := 0) (j := 1) (by decide +kernel) rfl rfl rfl) ?_
  refine gm_sz (gm_p_load (pc := 4) (i := .iload_n 2) (sr := 0) (j := 2) (by decide +kernel) rfl rfl rfl) ?_
  refine gm_c_virtH (k := 1) (ci := 0) (mj := 156) (ix := 51) (pc := 5) (as := [gm_vi x0, gm_vi x1]) (st := [gm_vi 0, gm_vr 245]) (d' := d) (bc' := bc) (bs' := bs) (by decide +kernel) (by decide +kernel) (by decide +kernel) k1.1 k1.2 (by decide) (by decide +kernel) (show 2 = gm_na 156 by decide +kernel) (fun v hv => by simp only [List.mem_cons, List.not_mem_nil, or_false] at hv; rcases hv with rfl | rfl <;> simp [gm_sort]) (show 2 + 1 ≤ gm_ml 156 by decide +kernel) (Nat.le_of_ble_eq_true rfl) (Nat.le_refl _) (Nat.le_refl _) (Nat.le_refl _) ?_
  refine gm_Wp_mono (fun o n1 K1 R1 M1 hq => ?_) h
  obtain ⟨⟨hn, hK⟩, hq⟩ := hq
  rcases hq with ⟨v, rfl, hq⟩ | ⟨i, hi, rfl, hq⟩
  · show gm_Wp X LX (d + 1) _ _ 155 8 (gm_ent 155 [gm_vr 1, gm_vi x0, gm_vi x1, gm_vr 245]) [gm_vi v, gm_vi 0, gm_vr 245] n1 K1 R1 M1 Q
    refine gm_sz (gm_p_i2l (pc := 8) (by decide +kernel)) ?_
    refine gm_sz (gm_p_last (pc := 9) (k := 245) (by decide +kernel) ⟨by decide, hn⟩ (by rw [hK]) (by rw [hK]; decide)) ?_
    refine gm_sz (gm_p_goto (pc := 10) (off := 7) (by decide +kernel) (by decide)) ?_
    refine gm_sz (gm_p_const (pc := 17) (i := .iconst 0) (v := gm_vi 0) (by decide +kernel) (by decide +kernel)) ?_
    exact gm_r_int (pc := 18) (by decide +kernel) (Or.inl (by decide +kernel)) hq
  · simp only [List.mem_cons, List.not_mem_nil, or_false] at hi
    rcases hi with rfl
    · show (match gm_hit (gm_ow 155) 5 3 false (gm_hh 155) with
      | some (some h) => gm_Wp X LX (d + 1) _ _ 155 h (gm_ent 155 [gm_vr 1, gm_vi x0, gm_vi x1, gm_vr 245]) [gm_vo 4000] n1 K1 R1 M1 Q
      | some none => Q (.inr 3) n1 K1 R1 M1
      | none => False)
      rw [hl_155_3]
      show gm_Wp X LX (d + 1) _ _ 155 13 (gm_ent 155 [gm_vr 1, gm_vi x0, gm_vi x1, gm_vr 245]) [gm_vo 4000] n1 K1 R1 M1 Q
      refine gm_sz (gm_p_stor (pc := 13) (i := .astore 4) (sr := 2) (j := 4) (by decide +kernel) rfl (show 5 ≤ _ from Nat.le_of_ble_eq_true rfl) rfl) ?_
      refine gm_sz (gm_p_const (pc := 15) (i := .iconst 1) (v := gm_vi 1) (by decide +kernel) (by decide +kernel)) ?_
      exact gm_r_int (pc := 16) (by decide +kernel) (Or.inl (by decide +kernel)) hq
theorem hl_157_3 : gm_hit (gm_ow 157) 4 3 false (gm_hh 157) = some (some 12) := by decide +kernel
theorem hl_157_2 : gm_hit (gm_ow 157) 4 2 false (gm_hh 157) = some (some 15) := by decide +kernel
theorem hl_157 {x0 : Int} (k1 : (1 ≤ 1 ∧ 1 ≤ n) ∧ (K 1).1 = 0 + 4) (h : gm_Wp X LX d bc bs 158 0 (gm_ent 158 [gm_vr 1, gm_vi x0]) [] n K R M (hQ [(3, 1), (2, 2)] Q)) : gm_Wp X LX (d + 1) bc bs 157 0 (gm_ent 157 [gm_vr 1, gm_vi x0, gm_vr 245]) [] n K R M Q := by
  refine gm_sz (gm_p_load (pc := 0) (i := .aload_n 2) (sr := 2) (j := 2) (by decide +kernel) rfl rfl rfl) ?_
  refine gm_sz (gm_p_const (pc := 1) (i := .iconst 0) (v := gm_vi 0) (by decide +kernel) (by decide +kernel)) ?_
  refine gm_sz (gm_p_load (pc := 2) (i := .aload_n 0) (sr := 2) (j := 0) (by decide +kernel) rfl rfl rfl) ?_
  refine gm_sz (gm_p_load (pc := 3) (i := .iload_n 1) (sr := 0) (j := 1) (by decide +kernel) rfl rfl rfl) ?_
  refine gm_c_virtH (k := 1) (ci := 0) (mj := 158) (ix := 54) (pc := 4) (as := [gm_vi x0]) (st := [gm_vi 0, gm_vr 245]) (d' := d) (bc' := bc) (bs' := bs) (by decide +kernel) (by decide +kernel) (by decide +kernel) k1.1 k1.2 (by decide) (by decide +kernel) (show 1 = gm_na 158 by decide +kernel) (fw_c1 (by simp [gm_sort])) (show 1 + 1 ≤ gm_ml 158 by decide +kernel) (Nat.le_of_ble_eq_true rfl) (Nat.le_refl _) (Nat.le_refl _) (Nat.le_refl _) ?_
  refine gm_Wp_mono (fun o n1 K1 R1 M1 hq => ?_) h
  obtain ⟨⟨hn, hK⟩, hq⟩ := hq
  rcases hq with ⟨v, rfl, hq⟩ | ⟨i, hi, rfl, hq⟩
  · show gm_Wp X LX (d + 1) _ _ 157 7 (gm_ent 157 [gm_vr 1, gm_vi x0, gm_vr 245]) [gm_vi v, gm_vi 0, gm_vr 245] n1 K1 R1 M1 Q
    refine gm_sz (gm_p_i2l (pc := 7) (by decide +kernel)) ?_
    refine gm_sz (gm_p_last (pc := 8) (k := 245) (by decide +kernel) ⟨by decide, hn⟩ (by rw [hK]) (by rw [hK]; decide)) ?_
    refine gm_sz (gm_p_goto (pc := 9) (off := 9) (by decide +kernel) (by decide)) ?_
    refine gm_sz (gm_p_const (pc := 18) (i := .iconst 0) (v := gm_vi 0) (by decide +kernel) (by decide +kernel)) ?_
    exact gm_r_int (pc := 19) (by decide +kernel) (Or.inl (by decide +kernel)) hq
  · simp only [List.mem_cons, List.not_mem_nil, or_false] at hi
    rcases hi with rfl | rfl
    · show (match gm_hit (gm_ow 157) 4 3 false (gm_hh 157) with
      | some (some h) => gm_Wp X LX (d + 1) _ _ 157 h (gm_ent 157 [gm_vr 1, gm_vi x0, gm_vr 245]) [gm_vo 4000] n1 K1 R1 M1 Q
      | some none => Q (.inr 3) n1 K1 R1 M1
      | none => False)
      rw [hl_157_3]
      show gm_Wp X LX (d + 1) _ _ 157 12 (gm_ent 157 [gm_vr 1, gm_vi x0, gm_vr 245]) [gm_vo 4000] n1 K1 R1 M1 Q
      refine gm_sz (gm_p_stor (pc := 12) (i := .astore_n 3) (sr := 2) (j := 3) (by decide +kernel) rfl (show 4 ≤ _ from Nat.le_of_ble_eq_true rfl) rfl) ?_
      refine gm_sz (gm_p_const (pc := 13) (i := .iconst 1) (v := gm_vi 1) (by decide +kernel) (by decide +kernel)) ?_
      exact gm_r_int (pc := 14) (by decide +kernel) (Or.inl (by decide +kernel)) hq
    · show (match gm_hit (gm_ow 157) 4 2 false (gm_hh 157) with
      | some (some h) => gm_Wp X LX (d + 1) _ _ 157 h (gm_ent 157 [gm_vr 1, gm_vi x0, gm_vr 245]) [gm_vo 4000] n1 K1 R1 M1 Q
      | some none => Q (.inr 2) n1 K1 R1 M1
      | none => False)
      rw [hl_157_2]
      show gm_Wp X LX (d + 1) _ _ 157 15 (gm_ent 157 [gm_vr 1, gm_vi x0, gm_vr 245]) [gm_vo 4000] n1 K1 R1 M1 Q
      refine gm_sz (gm_p_stor (pc := 15) (i := .astore_n 3) (sr := 2) (j := 3) (by decide +kernel) rfl (show 4 ≤ _ from Nat.le_of_ble_eq_true rfl) rfl) ?_
      refine gm_sz (gm_p_const (pc := 16) (i := .iconst 2) (v := gm_vi 2) (by decide +kernel) (by decide +kernel)) ?_
      exact gm_r_int (pc := 17) (by decide +kernel) (Or.inl (by decide +kernel)) hq
theorem hl_160_0 : gm_hit (gm_ow 160) 4 0 false (gm_hh 160) = some (some 12) := by decide +kernel
theorem hl_160 {x0 : Int} (k1 : (1 ≤ 1 ∧ 1 ≤ n) ∧ (K 1).1 = 0 + 4) (h : gm_Wp X LX d bc bs 161 0 (gm_ent 161 [gm_vr 1, gm_vi x0]) [] n K R M (hQ [(0, 1)] Q)) : gm_Wp X LX (d + 1) bc bs 160 0 (gm_ent 160 [gm_vr 1, gm_vi x0, gm_vr 245]) [] n K R M Q := by
  refine gm_sz (gm_p_load (pc := 0) (i := .aload_n 2) (sr := 2) (j := 2) (by decide +kernel) rfl rfl rfl) ?_
  refine gm_sz (gm_p_const (pc := 1) (i := .iconst 0) (v := gm_vi 0) (by decide +kernel) (by decide +kernel)) ?_
  refine gm_sz (gm_p_load (pc := 2) (i := .aload_n 0) (sr := 2) (j := 0) (by decide +kernel) rfl rfl rfl) ?_
  refine gm_sz (gm_p_load (pc := 3) (i := .iload_n 1) (sr := 0) (j := 1) (by decide +kernel) rfl rfl rfl) ?_
  refine gm_c_virtH (k := 1) (ci := 0) (mj := 161) (ix := 59) (pc := 4) (as := [gm_vi x0]) (st := [gm_vi 0, gm_vr 245]) (d' := d) (bc' := bc) (bs' := bs) (by decide +kernel) (by decide +kernel) (by decide +kernel) k1.1 k1.2 (by decide) (by decide +kernel) (show 1 = gm_na 161 by decide +kernel) (fw_c1 (by simp [gm_sort])) (show 1 + 1 ≤ gm_ml 161 by decide +kernel) (Nat.le_of_ble_eq_true rfl) (Nat.le_refl _) (Nat.le_refl _) (Nat.le_refl _) ?_
  refine gm_Wp_mono (fun o n1 K1 R1 M1 hq => ?_) h
  obtain ⟨⟨hn, hK⟩, hq⟩ := hq
  rcases hq with ⟨v, rfl, hq⟩ | ⟨i, hi, rfl, hq⟩
  · show gm_Wp X LX (d + 1) _ _ 160 7 (gm_ent 160 [gm_vr 1, gm_vi x0, gm_vr 245]) [gm_vi v, gm_vi 0, gm_vr 245] n1 K1 R1 M1 Q
    refine gm_sz (gm_p_i2l (pc := 7) (by decide +kernel)) ?_
    refine gm_sz (gm_p_last (pc := 8) (k := 245) (by decide +kernel) ⟨by decide, hn⟩ (by rw [hK]) (by rw [hK]; decide)) ?_
    refine gm_sz (gm_p_goto (pc := 9) (off := 6) (by decide +kernel) (by decide)) ?_
    refine gm_sz (gm_p_const (pc := 15) (i := .iconst 0) (v := gm_vi 0) (by decide +kernel) (by decide +kernel)) ?_
    exact gm_r_int (pc := 16) (by decide +kernel) (Or.inl (by decide +kernel)) hq
  · simp only [List.mem_cons, List.not_mem_nil, or_false] at hi
    rcases hi with rfl
    · show (match gm_hit (gm_ow 160) 4 0 false (gm_hh 160) with
      | some (some h) => gm_Wp X LX (d + 1) _ _ 160 h (gm_ent 160 [gm_vr 1, gm_vi x0, gm_vr 245]) [gm_vo 4000] n1 K1 R1 M1 Q
      | some none => Q (.inr 0) n1 K1 R1 M1
      | none => False)
      rw [hl_160_0]
      show gm_Wp X LX (d + 1) _ _ 160 12 (gm_ent 160 [gm_vr 1, gm_vi x0, gm_vr 245]) [gm_vo 4000] n1 K1 R1 M1 Q
      refine gm_sz (gm_p_stor (pc := 12) (i := .astore_n 3) (sr := 2) (j := 3) (by decide +kernel) rfl (show 4 ≤ _ from Nat.le_of_ble_eq_true rfl) rfl) ?_
      refine gm_sz (gm_p_const (pc := 13) (i := .iconst 1) (v := gm_vi 1) (by decide +kernel) (by decide +kernel)) ?_
      exact gm_r_int (pc := 14) (by decide +kernel) (Or.inl (by decide +kernel)) hq
theorem hl_166_3 : gm_hit (gm_ow 166) 9 3 false (gm_hh 166) = some (some 17) := by decide +kernel
theorem hl_166_0 : gm_hit (gm_ow 166) 9 0 false (gm_hh 166) = some (some 21) := by decide +kernel
theorem hl_166_4 : gm_hit (gm_ow 166) 9 4 false (gm_hh 166) = some (some 25) := by decide +kernel
theorem hl_166 {x0 x1 x2 x3 : Int} (k1 : (1 ≤ 1 ∧ 1 ≤ n) ∧ (K 1).1 = 0 + 4) (h : gm_Wp X LX d bc bs 167 0 (gm_ent 167 [gm_vr 1, gm_vi x0, gm_vi x1, gm_vi x2, gm_vi x3]) [] n K R M (hQ [(3, 1), (0, 2), (4, 3)] Q)) : gm_Wp X LX (d + 1) bc bs 166 0 (gm_ent 166 [gm_vr 1, gm_vi x0, gm_vi x1, gm_vi x2, gm_vi x3, gm_vr 245]) [] n K R M Q := by
  refine gm_sz (gm_p_load (pc := 0) (i := .aload 5) (sr := 2) (j := 5) (by decide +kernel) rfl rfl rfl) ?_
  refine gm_sz (gm_p_const (pc := 2) (i := .iconst 0) (v := gm_vi 0) (by decide +kernel) (by decide +kernel)) ?_
  refine gm_sz (gm_p_load (pc := 3) (i := .aload_n 0) (sr := 2) (j := 0) (by decide +kernel) rfl rfl rfl) ?_
  refine gm_sz (gm_p_load (pc := 4) (i := .iload_n 1) (sr := 0) (j := 1) (by decide +kernel) rfl rfl rfl) ?_
  refine gm_sz (gm_p_load (pc := 5) (i := .iload_n 2) (sr := 0) (j := 2) (by decide +kernel) rfl rfl rfl) ?_
  refine gm_sz (gm_p_load (pc := 6) (i := .iload_n 3) (sr := 0) (j := 3) (by decide +kernel) rfl rfl rfl) ?_
  refine gm_sz (gm_p_load (pc := 7) (i := .iload 4) (sr := 0) (j := 4) (by decide +kernel) rfl rfl rfl) ?_
  refine gm_c_virtH (k := 1) (ci := 0) (mj := 167) (ix := 62) (pc := 9) (as := [gm_vi x0, gm_vi x1, gm_vi x2, gm_vi x3]) (st := [gm_vi 0, gm_vr 245]) (d' := d) (bc' := bc) (bs' := bs) (by decide +kernel) (by decide +kernel) (by decide +kernel) k1.1 k1.2 (by decide) (by decide +kernel) (show 4 = gm_na 167 by decide +kernel) (fun v hv => by simp only [List.mem_cons, List.not_mem_nil, or_false] at hv; rcases hv with rfl | rfl | rfl | rfl <;> simp [gm_sort]) (show 4 + 1 ≤ gm_ml 167 by decide +kernel) (Nat.le_of_ble_eq_true rfl) (Nat.le_refl _) (Nat.le_refl _) (Nat.le_refl _) ?_
  refine gm_Wp_mono (fun o n1 K1 R1 M1 hq => ?_) h
  obtain ⟨⟨hn, hK⟩, hq⟩ := hq
  rcases hq with ⟨v, rfl, hq⟩ | ⟨i, hi, rfl, hq⟩
  · show gm_Wp X LX (d + 1) _ _ 166 12 (gm_ent 166 [gm_vr 1, gm_vi x0, gm_vi x1, gm_vi x2, gm_vi x3, gm_vr 245]) [gm_vi v, gm_vi 0, gm_vr 245] n1 K1 R1 M1 Q
    refine gm_sz (gm_p_i2l (pc := 12) (by decide +kernel)) ?_
    refine gm_sz (gm_p_last (pc := 13) (k := 245) (by decide +kernel) ⟨by decide, hn⟩ (by rw [hK]) (by rw [hK]; decide)) ?_
    refine gm_sz (gm_p_goto (pc := 14) (off := 15) (by decide +kernel) (by decide)) ?_
    refine gm_sz (gm_p_const (pc := 29) (i := .iconst 0) (v := gm_vi 0) (by decide +kernel) (by decide +kernel)) ?_
    exact gm_r_int (pc := 30) (by decide +kernel) (Or.inl (by decide +kernel)) hq
  · simp only [List.mem_cons, List.not_mem_nil, or_false] at hi
    rcases hi with rfl | rfl | rfl
    · show (match gm_hit (gm_ow 166) 9 3 false (gm_hh 166) with
      | some (some h) => gm_Wp X LX (d + 1) _ _ 166 h (gm_ent 166 [gm_vr 1, gm_vi x0, gm_vi x1, gm_vi x2, gm_vi x3, gm_vr 245]) [gm_vo 4000] n1 K1 R1 M1 Q
      | some none => Q (.inr 3) n1 K1 R1 M1
      | none => False)
      rw [hl_166_3]
      show gm_Wp X LX (d + 1) _ _ 166 17 (gm_ent 166 [gm_vr 1, gm_vi x0, gm_vi x1, gm_vi x2, gm_vi x3, gm_vr 245]) [gm_vo 4000] n1 K1 R1 M1 Q
      refine gm_sz (gm_p_stor (pc := 17) (i := .astore 6) (sr := 2) (j := 6) (by decide +kernel) rfl (show 7 ≤ _ from Nat.le_of_ble_eq_true rfl) rfl) ?_
      refine gm_sz (gm_p_const (pc := 19) (i := .iconst 1) (v := gm_vi 1) (by decide +kernel) (by decide +kernel)) ?_
      exact gm_r_int (pc := 20) (by decide +kernel) (Or.inl (by decide +kernel)) hq
    · show (match gm_hit (gm_ow 166) 9 0 false (gm_hh 166) with
      | some (some h) => gm_Wp X LX (d + 1) _ _ 166 h (gm_ent 166 [gm_vr 1, gm_vi x0, gm_vi x1, gm_vi x2, gm_vi x3, gm_vr 245]) [gm_vo 4000] n1 K1 R1 M1 Q
      | some none => Q (.inr 0) n1 K1 R1 M1
      | none => False)
      rw [hl_166_0]
      show gm_Wp X LX (d + 1) _ _ 166 21 (gm_ent 166 [gm_vr 1, gm_vi x0, gm_vi x1, gm_vi x2, gm_vi x3, gm_vr 245]) [gm_vo 4000] n1 K1 R1 M1 Q
      refine gm_sz (gm_p_stor (pc := 21) (i := .astore 6) (sr := 2) (j := 6) (by decide +kernel) rfl (show 7 ≤ _ from Nat.le_of_ble_eq_true rfl) rfl) ?_
      refine gm_sz (gm_p_const (pc := 23) (i := .iconst 2) (v := gm_vi 2) (by decide +kernel) (by decide +kernel)) ?_
      exact gm_r_int (pc := 24) (by decide +kernel) (Or.inl (by decide +kernel)) hq
    · show (match gm_hit (gm_ow 166) 9 4 false (gm_hh 166) with
      | some (some h) => gm_Wp X LX (d + 1) _ _ 166 h (gm_ent 166 [gm_vr 1, gm_vi x0, gm_vi x1, gm_vi x2, gm_vi x3, gm_vr 245]) [gm_vo 4000] n1 K1 R1 M1 Q
      | some none => Q (.inr 4) n1 K1 R1 M1
      | none => False)
      rw [hl_166_4]
      show gm_Wp X LX (d + 1) _ _ 166 25 (gm_ent 166 [gm_vr 1, gm_vi x0, gm_vi x1, gm_vi x2, gm_vi x3, gm_vr 245]) [gm_vo 4000] n1 K1 R1 M1 Q
      refine gm_sz (gm_p_stor (pc := 25) (i := .astore 6) (sr := 2) (j := 6) (by decide +kernel) rfl (show 7 ≤ _ from Nat.le_of_ble_eq_true rfl) rfl) ?_
      refine gm_sz (gm_p_const (pc := 27) (i := .iconst 3) (v := gm_vi 3) (by decide +kernel) (by decide +kernel)) ?_
      exact gm_r_int (pc := 28) (by decide +kernel) (Or.inl (by decide +kernel)) hq
theorem hl_168_3 : gm_hit (gm_ow 168) 5 3 false (gm_hh 168) = some (some 13) := by decide +kernel
theorem hl_168_0 : gm_hit (gm_ow 168) 5 0 false (gm_hh 168) = some (some 17) := by decide +kernel
theorem hl_168 {x0 x1 : Int} (k1 : (1 ≤ 1 ∧ 1 ≤ n) ∧ (K 1).1 = 0 + 4) (h : gm_Wp X LX d bc bs 169 0 (gm_ent 169 [gm_vr 1, gm_vi x0, gm_vi x1]) [] n K R M (hQ [(3, 1), (0, 2)] Q)) : gm_Wp X LX (d + 1) bc bs 168 0 (gm_ent 168 [gm_vr 1, gm_vi x0, gm_vi x1, gm_vr 245]) [] n K R M Q := by
  refine gm_sz (gm_p_load (pc := 0) (i := .aload_n 3) (sr := 2) (j := 3) (by decide +kernel) rfl rfl rfl) ?_
  refine gm_sz (gm_p_const (pc := 1) (i := .iconst 0) (v := gm_vi 0) (by decide +kernel) (by decide +kernel)) ?_
  refine gm_sz (gm_p_load (pc := 2) (i := .aload_n 0) (sr := 2) (j := 0) (by decide +kernel) rfl rfl rfl) ?_
  refine gm_sz (gm_p_load (pc := 3) (i := .iload_n 1) (sr := 0) (j := 1) (by decide +kernel) rfl rfl rfl) ?_
  refine gm_sz (gm_p_load (pc := 4) (i := .iload_n 2) (sr := 0) (j := 2) (by decide +kernel) rfl rfl rfl) ?_
  refine gm_c_virtH (k := 1) (ci := 0) (mj := 169) (ix := 66) (pc := 5) (as := [gm_vi x0, gm_vi x1]) (st := [gm_vi 0, gm_vr 245]) (d' := d) (bc' := bc) (bs' := bs) (by decide +kernel) (by decide +kernel) (by decide +kernel) k1.1 k1.2 (by decide) (by decide +kernel) (show 2 = gm_na 169 by decide +kernel) (fun v hv => by simp only [List.mem_cons, List.not_mem_nil, or_false] at hv; rcases hv with rfl | rfl <;> simp [gm_sort]) (show 2 + 1 ≤ gm_ml 169 by decide +kernel) (Nat.le_of_ble_eq_true rfl) (Nat.le_refl _) (Nat.le_refl _) (Nat.le_refl _) ?_
  refine gm_Wp_mono (fun o n1 K1 R1 M1 hq => ?_) h
  obtain ⟨⟨hn, hK⟩, hq⟩ := hq
  rcases hq with ⟨v, rfl, hq⟩ | ⟨i, hi, rfl, hq⟩
  · show gm_Wp X LX (d + 1) _ _ 168 8 (gm_ent 168 [gm_vr 1, gm_vi x0, gm_vi x1, gm_vr 245]) [gm_vi v, gm_vi 0, gm_vr 245] n1 K1 R1 M1 Q
    refine gm_sz (gm_p_i2l (pc := 8) (by decide +kernel)) ?_
    refine gm_sz (gm_p_last (pc := 9) (k := 245) (by decide +kernel) ⟨by decide, hn⟩ (by rw [hK]) (by rw [hK]; decide)) ?_
    refine gm_sz (gm_p_goto (pc := 10) (off := 11) (by decide +kernel) (by decide)) ?_
    refine gm_sz (gm_p_const (pc := 21) (i := .iconst 0) (v := gm_vi 0) (by decide +kernel) (by decide +kernel)) ?_
    exact gm_r_int (pc := 22) (by decide +kernel) (Or.inl (by decide +kernel)) hq
  · simp only [List.mem_cons, List.not_mem_nil, or_false] at hi
    rcases hi with rfl | rfl
    · show (match gm_hit (gm_ow 168) 5 3 false (gm_hh 168) with
      | some (some h) => gm_Wp X LX (d + 1) _ _ 168 h (gm_ent 168 [gm_vr 1, gm_vi x0, gm_vi x1, gm_vr 245]) [gm_vo 4000] n1 K1 R1 M1 Q
      | some none => Q (.inr 3) n1 K1 R1 M1
      | none => False)
      rw [hl_168_3]
      show gm_Wp X LX (d + 1) _ _ 168 13 (gm_ent 168 [gm_vr 1, gm_vi x0, gm_vi x1, gm_vr 245]) [gm_vo 4000] n1 K1 R1 M1 Q
      refine gm_sz (gm_p_stor (pc := 13) (i := .astore 4) (sr := 2) (j := 4) (by decide +kernel) rfl (show 5 ≤ _ from Nat.le_of_ble_eq_true rfl) rfl) ?_
      refine gm_sz (gm_p_const (pc := 15) (i := .iconst 1) (v := gm_vi 1) (by decide +kernel) (by decide +kernel)) ?_
      exact gm_r_int (pc := 16) (by decide +kernel) (Or.inl (by decide +kernel)) hq
    · show (match gm_hit (gm_ow 168) 5 0 false (gm_hh 168) with
      | some (some h) => gm_Wp X LX (d + 1) _ _ 168 h (gm_ent 168 [gm_vr 1, gm_vi x0, gm_vi x1, gm_vr 245]) [gm_vo 4000] n1 K1 R1 M1 Q
      | some none => Q (.inr 0) n1 K1 R1 M1
      | none => False)
      rw [hl_168_0]
      show gm_Wp X LX (d + 1) _ _ 168 17 (gm_ent 168 [gm_vr 1, gm_vi x0, gm_vi x1, gm_vr 245]) [gm_vo 4000] n1 K1 R1 M1 Q
      refine gm_sz (gm_p_stor (pc := 17) (i := .astore 4) (sr := 2) (j := 4) (by decide +kernel) rfl (show 5 ≤ _ from Nat.le_of_ble_eq_true rfl) rfl) ?_
      refine gm_sz (gm_p_const (pc := 19) (i := .iconst 2) (v := gm_vi 2) (by decide +kernel) (by decide +kernel)) ?_
      exact gm_r_int (pc := 20) (by decide +kernel) (Or.inl (by decide +kernel)) hq
theorem hl_171_3 : gm_hit (gm_ow 171) 5 3 false (gm_hh 171) = some (some 13) := by decide +kernel
theorem hl_171_0 : gm_hit (gm_ow 171) 5 0 false (gm_hh 171) = some (some 17) := by decide +kernel
theorem hl_171 {x0 x1 : Int} (k1 : (1 ≤ 1 ∧ 1 ≤ n) ∧ (K 1).1 = 0 + 4) (h : gm_Wp X LX d bc bs 172 0 (gm_ent 172 [gm_vr 1, gm_vi x0, gm_vi x1]) [] n K R M (hQ [(3, 1), (0, 2)] Q)) : gm_Wp X LX (d + 1) bc bs 171 0 (gm_ent 171 [gm_vr 1, gm_vi x0, gm_vi x1, gm_vr 245]) [] n K R M Q := by
  refine gm_sz (gm_p_load (pc := 0) (i := .aload_n 3) (sr := 2) (j := 3) (by decide +kernel) rfl rfl rfl) ?_
  refine gm_sz (gm_p_const (pc := 1) (i := .iconst 0) (v := gm_vi 0) (by decide +kernel) (by decide +kernel)) ?_
  refine gm_sz (gm_p_load (pc := 2) (i := .aload_n 0) (sr := 2) (j := 0) (by decide +kernel) rfl rfl rfl) ?_
  refine gm_sz (gm_p_load (pc := 3) (i := .iload_n 1) (sr := 0) (j := 1) (by decide +kernel) rfl rfl rfl) ?_
  refine gm_sz (gm_p_load (pc := 4) (i := .iload_n 2) (sr := 0) (j := 2) (by decide +kernel) rfl rfl rfl) ?_
  refine gm_c_virtH (k := 1) (ci := 0) (mj := 172) (ix := 69) (pc := 5) (as := [gm_vi x0, gm_vi x1]) (st := [gm_vi 0, gm_vr 245]) (d' := d) (bc' := bc) (bs' := bs) (by decide +kernel) (by decide +kernel) (by decide +kernel) k1.1 k1.2 (by decide) (by decide +kernel) (show 2 = gm_na 172 by decide +kernel) (fun v hv => by simp only [List.mem_cons, List.not_mem_nil, or_false] at hv; rcases hv with rfl | rfl <;> simp [gm_sort]) (show 2 + 1 ≤ gm_ml 172 by decide +kernel) (Nat.le_of_ble_eq_true rfl) (Nat.le_refl _) (Nat.le_refl _) (Nat.le_refl _) ?_
  refine gm_Wp_mono (fun o n1 K1 R1 M1 hq => ?_) h
  obtain ⟨⟨hn, hK⟩, hq⟩ := hq
  rcases hq with ⟨v, rfl, hq⟩ | ⟨i, hi, rfl, hq⟩
  · show gm_Wp X LX (d + 1) _ _ 171 8 (gm_ent 171 [gm_vr 1, gm_vi x0, gm_vi x1, gm_vr 245]) [gm_vi v, gm_vi 0, gm_vr 245] n1 K1 R1 M1 Q
    refine gm_sz (gm_p_i2l (pc := 8) (by decide +kernel)) ?_
    refine gm_sz (gm_p_last (pc := 9) (k := 245) (by decide +kernel) ⟨by decide, hn⟩ (by rw [hK]) (by rw [hK]; decide)) ?_
    refine gm_sz (gm_p_goto (pc := 10) (off := 11) (by decide +kernel) (by decide)) ?_
    refine gm_sz (gm_p_const (pc := 21) (i := .iconst 0) (v := gm_vi 0) (by decide +kernel) (by decide +kernel)) ?_
    exact gm_r_int (pc := 22) (by decide +kernel) (Or.inl (by decide +kernel)) hq
  · simp only [List.mem_cons, List.not_mem_nil, or_false] at hi
    rcases hi with rfl | rfl
    · show (match gm_hit (gm_ow 171) 5 3 false (gm_hh 171) with
      | some (some h) => gm_Wp X LX (d + 1) _ _ 171 h (gm_ent 171 [gm_vr 1, gm_vi x0, gm_vi x1, gm_vr 245]) [gm_vo 4000] n1 K1 R1 M1 Q
      | some none => Q (.inr 3) n1 K1 R1 M1
      | none => False)
      rw [hl_171_3]
      show gm_Wp X LX (d + 1) _ _ 171 13 (gm_ent 171 [gm_vr 1, gm_vi x0, gm_vi x1, gm_vr 245]) [gm_vo 4000] n1 K1 R1 M1 Q
      refine gm_sz (gm_p_stor (pc := 13) (i := .astore 4) (sr := 2) (j := 4) (by decide +kernel) rfl (show 5 ≤ _ from Nat.le_of_ble_eq_true rfl) rfl) ?_
      refine gm_sz (gm_p_const (pc := 15) (i := .iconst 1) (v := gm_vi 1) (by decide +kernel) (by decide +kernel)) ?_
      exact gm_r_int (pc := 16) (by decide +kernel) (Or.inl (by decide +kernel)) hq
    · show (match gm_hit (gm_ow 171) 5 0 false (gm_hh 171) with
      | some (some h) => gm_Wp X LX (d + 1) _ _ 171 h (gm_ent 171 [gm_vr 1, gm_vi x0, gm_vi x1, gm_vr 245]) [gm_vo 4000] n1 K1 R1 M1 Q
      | some none => Q (.inr 0) n1 K1 R1 M1
      | none => False)
      rw [hl_171_0]
      show gm_Wp X LX (d + 1) _ _ 171 17 (gm_ent 171 [gm_vr 1, gm_vi x0, gm_vi x1, gm_vr 245]) [gm_vo 4000] n1 K1 R1 M1 Q
      refine gm_sz (gm_p_stor (pc := 17) (i := .astore 4) (sr := 2) (j := 4) (by decide +kernel) rfl (show 5 ≤ _ from Nat.le_of_ble_eq_true rfl) rfl) ?_
      refine gm_sz (gm_p_const (pc := 19) (i := .iconst 2) (v := gm_vi 2) (by decide +kernel) (by decide +kernel)) ?_
      exact gm_r_int (pc := 20) (by decide +kernel) (Or.inl (by decide +kernel)) hq
theorem hl_173_3 : gm_hit (gm_ow 173) 5 3 false (gm_hh 173) = some (some 13) := by decide +kernel
theorem hl_173 {x0 x1 : Int} (k1 : (1 ≤ 1 ∧ 1 ≤ n) ∧ (K 1).1 = 0 + 4) (h : gm_Wp X LX d bc bs 174 0 (gm_ent 174 [gm_vr 1, gm_vi x0, gm_vi x1]) [] n K R M (hQ [(3, 1)] Q)) : gm_Wp X LX (d + 1) bc bs 173 0 (gm_ent 173 [gm_vr 1, gm_vi x0, gm_vi x1, gm_vr 245]) [] n K R M Q := by
  refine gm_sz (gm_p_load (pc := 0) (i := .aload_n 3) (sr := 2) (j := 3) (by decide +kernel) rfl rfl rfl) ?_
  refine gm_sz (gm_p_const (pc := 1) (i := .iconst 0) (v := gm_vi 0) (by decide +kernel) (by decide +kernel)) ?_
  refine gm_sz (gm_p_load (pc := 2) (i := .aload_n 0) (sr := 2) (j := 0) (by decide +kernel) rfl rfl rfl) ?_
  refine gm_sz (gm_p_load (pc := 3) (i := .iload_n 1) (sr := 0) (j := 1) (by decide +kernel) rfl rfl rfl) ?_
  refine gm_sz (gm_p_load (pc := 4) (i := .iload_n 2) (sr := 0) (j := 2) (by decide +kernel) rfl rfl rfl) ?_
  refine gm_c_virtH (k := 1) (ci := 0) (mj := 174) (ix := 72) (pc := 5) (as := [gm_vi x0, gm_vi x1]) (st := [gm_vi 0, gm_vr 245]) (d' := d) (bc' := bc) (bs' := bs) (by decide +kernel) (by decide +kernel) (by decide +kernel) k1.1 k1.2 (by decide) (by decide +kernel) (show 2 = gm_na 174 by decide +kernel) (fun v hv => by simp only [List.mem_cons, List.not_mem_nil, or_false] at hv; rcases hv with rfl | rfl <;> simp [gm_sort]) (show 2 + 1 ≤ gm_ml 174 by decide +kernel) (Nat.le_of_ble_eq_true rfl) (Nat.le_refl _) (Nat.le_refl _) (Nat.le_refl _) ?_
  refine gm_Wp_mono (fun o n1 K1 R1 M1 hq => ?_) h
  obtain ⟨⟨hn, hK⟩, hq⟩ := hq
  rcases hq with ⟨v, rfl, hq⟩ | ⟨i, hi, rfl, hq⟩
  · show gm_Wp X LX (d + 1) _ _ 173 8 (gm_ent 173 [gm_vr 1, gm_vi x0, gm_vi x1, gm_vr 245]) [gm_vi v, gm_vi 0, gm_vr 245] n1 K1 R1 M1 Q
    refine gm_sz (gm_p_i2l (pc := 8) (by decide +kernel)) ?_
    refine gm_sz (gm_p_last (pc := 9) (k := 245) (by decide +kernel) ⟨by decide, hn⟩ (by rw [hK]) (by rw [hK]; decide)) ?_
    refine gm_sz (gm_p_goto (pc := 10) (off := 7) (by decide +kernel) (by decide)) ?_
    refine gm_sz (gm_p_const (pc := 17) (i := .iconst 0) (v := gm_vi 0) (by decide +kernel) (by decide +kernel)) ?_
    exact gm_r_int (pc := 18) (by decide +kernel) (Or.inl (by decide +kernel)) hq
  · simp only [List.mem_cons, List.not_mem_nil, or_false] at hi
    rcases hi with rfl
    · show (match gm_hit (gm_ow 173) 5 3 false (gm_hh 173) with
      | some (some h) => gm_Wp X LX (d + 1) _ _ 173 h (gm_ent 173 [gm_vr 1, gm_vi x0, gm_vi x1, gm_vr 245]) [gm_vo 4000] n1 K1 R1 M1 Q
      | some none => Q (.inr 3) n1 K1 R1 M1
      | none => False)
      rw [hl_173_3]
      show gm_Wp X LX (d + 1) _ _ 173 13 (gm_ent 173 [gm_vr 1, gm_vi x0, gm_vi x1, gm_vr 245]) [gm_vo 4000] n1 K1 R1 M1 Q
      refine gm_sz (gm_p_stor (pc := 13) (i := .astore 4) (sr := 2) (j := 4) (by decide +kernel) rfl (show 5 ≤ _ from Nat.le_of_ble_eq_true rfl) rfl) ?_
      refine gm_sz (gm_p_const (pc := 15) (i := .iconst 1) (v := gm_vi 1) (by decide +kernel) (by decide +kernel)) ?_
      exact gm_r_int (pc := 16) (by decide +kernel) (Or.inl (by decide +kernel)) hq
theorem hl_176_3 : gm_hit (gm_ow 176) 4 3 false (gm_hh 176) = some (some 12) := by decide +kernel
theorem hl_176 {x0 : Int} (k1 : (1 ≤ 1 ∧ 1 ≤ n) ∧ (K 1).1 = 0 + 4) (h : gm_Wp X LX d bc bs 177 0 (gm_ent 177 [gm_vr 1, gm_vi x0]) [] n K R M (hQ [(3, 1)] Q)) : gm_Wp X LX (d + 1) bc bs 176 0 (gm_ent 176 [gm_vr 1, gm_vi x0, gm_vr 245]) [] n K R M Q := by
  refine gm_sz (gm_p_load (pc := 0) (i := .aload_n 2) (sr := 2) (j := 2) (by decide +kernel) rfl rfl rfl) ?_
  refine gm_sz (gm_p_const (pc := 1) (i := .iconst 0) (v := gm_vi 0) (by decide +kernel) (by decide +kernel)) ?_
  refine gm_sz (gm_p_load (pc := 2) (i := .aload_n 0) (sr := 2) (j := 0) (by decide +kernel) rfl rfl rfl) ?_
  refine gm_sz (gm_p_load (pc := 3) (i := .iload_n 1) (sr := 0) (j := 1) (by decide +kernel) rfl rfl rfl) ?_
  refine gm_c_virtH (k := 1) (ci := 0) (mj := 177) (ix := 75) (pc := 4) (as := [gm_vi x0]) (st := [gm_vi 0, gm_vr 245]) (d' := d) (bc' := bc) (bs' := bs) (by decide +kernel) (by decide +kernel) (by decide +kernel) k1.1 k1.2 (by decide) (by decide +kernel) (show 1 = gm_na 177 by decide +kernel) (fw_c1 (by simp [gm_sort])) (show 1 + 1 ≤ gm_ml 177 by decide +kernel) (Nat.le_of_ble_eq_true rfl) (Nat.le_refl _) (Nat.le_refl _) (Nat.le_refl _) ?_
  refine gm_Wp_mono (fun o n1 K1 R1 M1 hq => ?_) h
  obtain ⟨⟨hn, hK⟩, hq⟩ := hq
  rcases hq with ⟨v, rfl, hq⟩ | ⟨i, hi, rfl, hq⟩
  · show gm_Wp X LX (d + 1) _ _ 176 7 (gm_ent 176 [gm_vr 1, gm_vi x0, gm_vr 245]) [gm_vi v, gm_vi 0, gm_vr 245] n1 K1 R1 M1 Q
    refine gm_sz (gm_p_i2l (pc := 7) (by decide +kernel)) ?_
    refine gm_sz (gm_p_last (pc := 8) (k := 245) (by decide +kernel) ⟨by decide, hn⟩ (by rw [hK]) (by rw [hK]; decide)) ?_
    refine gm_sz (gm_p_goto (pc := 9) (off := 6) (by decide +kernel) (by decide)) ?_
    refine gm_sz (gm_p_const (pc := 15) (i := .iconst 0) (v := gm_vi 0) (by decide +kernel) (by decide +kernel)) ?_
    exact gm_r_int (pc := 16) (by decide +kernel) (Or.inl (by decide +kernel)) hq
  · simp only [List.mem_cons, List.not_mem_nil, or_false] at hi
    rcases hi with rfl
    · show (match gm_hit (gm_ow 176) 4 3 false (gm_hh 176) with
      | some (some h) => gm_Wp X LX (d + 1) _ _ 176 h (gm_ent 176 [gm_vr 1, gm_vi x0, gm_vr 245]) [gm_vo 4000] n1 K1 R1 M1 Q
      | some none => Q (.inr 3) n1 K1 R1 M1
      | none => False)
      rw [hl_176_3]
      show gm_Wp X LX (d + 1) _ _ 176 12 (gm_ent 176 [gm_vr 1, gm_vi x0, gm_vr 245]) [gm_vo 4000] n1 K1 R1 M1 Q
      refine gm_sz (gm_p_stor (pc := 12) (i := .astore_n 3) (sr := 2) (j := 3) (by decide +kernel) rfl (show 4 ≤ _ from Nat.le_of_ble_eq_true rfl) rfl) ?_
      refine gm_sz (gm_p_const (pc := 13) (i := .iconst 1) (v := gm_vi 1) (by decide +kernel) (by decide +kernel)) ?_
      exact gm_r_int (pc := 14) (by decide +kernel) (Or.inl (by decide +kernel)) hq
theorem hl_178_3 : gm_hit (gm_ow 178) 4 3 false (gm_hh 178) = some (some 12) := by decide +kernel
theorem hl_178 {x0 : Int} (k1 : (1 ≤ 1 ∧ 1 ≤ n) ∧ (K 1).1 = 0 + 4) (h : gm_Wp X LX d bc bs 179 0 (gm_ent 179 [gm_vr 1, gm_vi x0]) [] n K R M (hQ [(3, 1)] Q)) : gm_Wp X LX (d + 1) bc bs 178 0 (gm_ent 178 [gm_vr 1, gm_vi x0, gm_vr 245]) [] n K R M Q := by
  refine gm_sz (gm_p_load (pc := 0) (i := .aload_n 2) (sr := 2) (j := 2) (by decide +kernel) rfl rfl rfl) ?_
  refine gm_sz (gm_p_const (pc := 1) (i := .iconst 0) (v := gm_vi 0) (by decide +kernel) (by decide +kernel)) ?_
  refine gm_sz (gm_p_load (pc := 2) (i := .aload_n 0) (sr := 2) (j := 0) (by decide +kernel) rfl rfl rfl) ?_
  refine gm_sz (gm_p_load (pc := 3) (i := .iload_n 1) (sr := 0) (j := 1) (by decide +kernel) rfl rfl rfl) ?_
  refine gm_c_virtH (k := 1) (ci := 0) (mj := 179) (ix := 78) (pc := 4) (as := [gm_vi x0]) (st := [gm_vi 0, gm_vr 245]) (d' := d) (bc' := bc) (bs' := bs) (by decide +kernel) (by decide +kernel) (by decide +kernel) k1.1 k1.2 (by decide) (by decide +kernel) (show 1 = gm_na 179 by decide +kernel) (fw_c1 (by simp [gm_sort])) (show 1 + 1 ≤ gm_ml 179 by decide +kernel) (Nat.le_of_ble_eq_true rfl) (Nat.le_refl _) (Nat.le_refl _) (Nat.le_refl _) ?_
  refine gm_Wp_mono (fun o n1 K1 R1 M1 hq => ?_) h
  obtain ⟨⟨hn, hK⟩, hq⟩ := hq
  rcases hq with ⟨v, rfl, hq⟩ | ⟨i, hi, rfl, hq⟩
  · show gm_Wp X LX (d + 1) _ _ 178 7 (gm_ent 178 [gm_vr 1, gm_vi x0, gm_vr 245]) [gm_vi v, gm_vi 0, gm_vr 245] n1 K1 R1 M1 Q
    refine gm_sz (gm_p_i2l (pc := 7) (by decide +kernel)) ?_
    refine gm_sz (gm_p_last (pc := 8) (k := 245) (by decide +kernel) ⟨by decide, hn⟩ (by rw [hK]) (by rw [hK]; decide)) ?_
    refine gm_sz (gm_p_goto (pc := 9) (off := 6) (by decide +kernel) (by decide)) ?_
    refine gm_sz (gm_p_const (pc := 15) (i := .iconst 0) (v := gm_vi 0) (by decide +kernel) (by decide +kernel)) ?_
    exact gm_r_int (pc := 16) (by decide +kernel) (Or.inl (by decide +kernel)) hq
  · simp only [List.mem_cons, List.not_mem_nil, or_false] at hi
    rcases hi with rfl
    · show (match gm_hit (gm_ow 178) 4 3 false (gm_hh 178) with
      | some (some h) => gm_Wp X LX (d + 1) _ _ 178 h (gm_ent 178 [gm_vr 1, gm_vi x0, gm_vr 245]) [gm_vo 4000] n1 K1 R1 M1 Q
      | some none => Q (.inr 3) n1 K1 R1 M1
      | none => False)
      rw [hl_178_3]
      show gm_Wp X LX (d + 1) _ _ 178 12 (gm_ent 178 [gm_vr 1, gm_vi x0, gm_vr 245]) [gm_vo 4000] n1 K1 R1 M1 Q
      refine gm_sz (gm_p_stor (pc := 12) (i := .astore_n 3) (sr := 2) (j := 3) (by decide +kernel) rfl (show 4 ≤ _ from Nat.le_of_ble_eq_true rfl) rfl) ?_
      refine gm_sz (gm_p_const (pc := 13) (i := .iconst 1) (v := gm_vi 1) (by decide +kernel) (by decide +kernel)) ?_
      exact gm_r_int (pc := 14) (by decide +kernel) (Or.inl (by decide +kernel)) hq
theorem hl_185_3 : gm_hit (gm_ow 185) 7 3 false (gm_hh 185) = some (some 15) := by decide +kernel
theorem hl_185_0 : gm_hit (gm_ow 185) 7 0 false (gm_hh 185) = some (some 19) := by decide +kernel
theorem hl_185 {x0 x1 x2 : Int} (k1 : (1 ≤ 1 ∧ 1 ≤ n) ∧ (K 1).1 = 0 + 4) (h : gm_Wp X LX d bc bs 186 0 (gm_ent 186 [gm_vr 1, gm_vi x0, gm_vi x1, gm_vi x2]) [] n K R M (hQ [(3, 1), (0, 2)] Q)) : gm_Wp X LX (d + 1) bc bs 185 0 (gm_ent 185 [gm_vr 1, gm_vi x0, gm_vi x1, gm_vi x2, gm_vr 245]) [] n K R M Q := by
  refine gm_sz (gm_p_load (pc := 0) (i := .aload 4) (sr := 2) (j := 4) (by decide +kernel) rfl rfl rfl) ?_
  refine gm_sz (gm_p_const (pc := 2) (i := .iconst 0) (v := gm_vi 0) (by decide +kernel) (by decide +kernel)) ?_
  refine gm_sz (gm_p_load (pc := 3) (i := .aload_n 0) (sr := 2) (j := 0) (by decide +kernel) rfl rfl rfl) ?_
  refine gm_sz (gm_p_load (pc := 4) (i := .iload_n 1) (sr := 0) (j := 1) (by decide +kernel) rfl rfl rfl) ?_
  refine gm_sz (gm_p_load (pc := 5) (i := .iload_n 2) (sr := 0) (j := 2) (by decide +kernel) rfl rfl rfl) ?_
  refine gm_sz (gm_p_load (pc := 6) (i := .iload_n 3) (sr := 0) (j := 3) (by decide +kernel) rfl rfl rfl) ?_
  refine gm_c_virtH (k := 1) (ci := 0) (mj := 186) (ix := 81) (pc := 7) (as := [gm_vi x0, gm_vi x1, gm_vi x2]) (st := [gm_vi 0, gm_vr 245]) (d' := d) (bc' := bc) (bs' := bs) (by decide +kernel) (by decide +kernel) (by decide +kernel) k1.1 k1.2 (by decide) (by decide +kernel) (show 3 = gm_na 186 by decide +kernel) (fun v hv => by simp only [List.mem_cons, List.not_mem_nil, or_false] at hv; rcases hv with rfl | rfl | rfl <;> simp [gm_sort]) (show 3 + 1 ≤ gm_ml 186 by decide +kernel) (Nat.le_of_ble_eq_true rfl) (Nat.le_refl _) (Nat.le_refl _) (Nat.le_refl _) ?_
  refine gm_Wp_mono (fun o n1 K1 R1 M1 hq => ?_) h
  obtain ⟨⟨hn, hK⟩, hq⟩ := hq
  rcases hq with ⟨v, rfl, hq⟩ | ⟨i, hi, rfl, hq⟩
  · show gm_Wp X LX (d + 1) _ _ 185 10 (gm_ent 185 [gm_vr 1, gm_vi x0, gm_vi x1, gm_vi x2, gm_vr 245]) [gm_vi v, gm_vi 0, gm_vr 245] n1 K1 R1 M1 Q
    refine gm_sz (gm_p_i2l (pc := 10) (by decide +kernel)) ?_
    refine gm_sz (gm_p_last (pc := 11) (k := 245) (by decide +kernel) ⟨by decide, hn⟩ (by rw [hK]) (by rw [hK]; decide)) ?_
    refine gm_sz (gm_p_goto (pc := 12) (off := 11) (by decide +kernel) (by decide)) ?_
    refine gm_sz (gm_p_const (pc := 23) (i := .iconst 0) (v := gm_vi 0) (by decide +kernel) (by decide +kernel)) ?_
    exact gm_r_int (pc := 24) (by decide +kernel) (Or.inl (by decide +kernel)) hq
  · simp only [List.mem_cons, List.not_mem_nil, or_false] at hi
    rcases hi with rfl | rfl
    · show (match gm_hit (gm_ow 185) 7 3 false (gm_hh 185) with
      | some (some h) => gm_Wp X LX (d + 1) _ _ 185 h (gm_ent 185 [gm_vr 1, gm_vi x0, gm_vi x1, gm_vi x2, gm_vr 245]) [gm_vo 4000] n1 K1 R1 M1 Q
      | some none => Q (.inr 3) n1 K1 R1 M1
      | none => False)
      rw [hl_185_3]
      show gm_Wp X LX (d + 1) _ _ 185 15 (gm_ent 185 [gm_vr 1, gm_vi x0, gm_vi x1, gm_vi x2, gm_vr 245]) [gm_vo 4000] n1 K1 R1 M1 Q
      refine gm_sz (gm_p_stor (pc := 15) (i := .astore 5) (sr := 2) (j := 5) (by decide +kernel) rfl (show 6 ≤ _ from Nat.le_of_ble_eq_true rfl) rfl) ?_
      refine gm_sz (gm_p_const (pc := 17) (i := .iconst 1) (v := gm_vi 1) (by decide +kernel) (by decide +kernel)) ?_
      exact gm_r_int (pc := 18) (by decide +kernel) (Or.inl (by decide +kernel)) hq
    · show (match gm_hit (gm_ow 185) 7 0 false (gm_hh 185) with
      | some (some h) => gm_Wp X LX (d + 1) _ _ 185 h (gm_ent 185 [gm_vr 1, gm_vi x0, gm_vi x1, gm_vi x2, gm_vr 245]) [gm_vo 4000] n1 K1 R1 M1 Q
      | some none => Q (.inr 0) n1 K1 R1 M1
      | none => False)
      rw [hl_185_0]
      show gm_Wp X LX (d + 1) _ _ 185 19 (gm_ent 185 [gm_vr 1, gm_vi x0, gm_vi x1, gm_vi x2, gm_vr 245]) [gm_vo 4000] n1 K1 R1 M1 Q
      refine gm_sz (gm_p_stor (pc := 19) (i := .astore 5) (sr := 2) (j := 5) (by decide +kernel) rfl (show 6 ≤ _ from Nat.le_of_ble_eq_true rfl) rfl) ?_
      refine gm_sz (gm_p_const (pc := 21) (i := .iconst 2) (v := gm_vi 2) (by decide +kernel) (by decide +kernel)) ?_
      exact gm_r_int (pc := 22) (by decide +kernel) (Or.inl (by decide +kernel)) hq
theorem hl_189_3 : gm_hit (gm_ow 189) 9 3 false (gm_hh 189) = some (some 17) := by decide +kernel
theorem hl_189_0 : gm_hit (gm_ow 189) 9 0 false (gm_hh 189) = some (some 21) := by decide +kernel
theorem hl_189 {x0 x1 x2 x3 : Int} (k1 : (1 ≤ 1 ∧ 1 ≤ n) ∧ (K 1).1 = 0 + 4) (h : gm_Wp X LX d bc bs 190 0 (gm_ent 190 [gm_vr 1, gm_vi x0, gm_vi x1, gm_vi x2, gm_vi x3]) [] n K R M (hQ [(3, 1), (0, 2)] Q)) : gm_Wp X LX (d + 1) bc bs 189 0 (gm_ent 189 [gm_vr 1, gm_vi x0, gm_vi x1, gm_vi x2, gm_vi x3, gm_vr 245]) [] n K R M Q := by
  refine gm_sz (gm_p_load (pc := 0) (i := .aload 5) (sr := 2) (j := 5) (by decide +kernel) rfl rfl rfl) ?_
  refine gm_sz (gm_p_const (pc := 2) (i := .iconst 0) (v := gm_vi 0) (by decide +kernel) (by decide +kernel)) ?_
  refine gm_sz (gm_p_load (pc := 3) (i := .aload_n 0) (sr := 2) (j := 0) (by decide +kernel) rfl rfl rfl) ?_
  refine gm_sz (gm_p_load (pc := 4) (i := .iload_n 1) (sr := 0) (j := 1) (by decide +kernel) rfl rfl rfl) ?_
  refine gm_sz (gm_p_load (pc := 5) (i := .iload_n 2) (sr := 0) (j := 2) (by decide +kernel) rfl rfl rfl) ?_
  refine gm_sz (gm_p_load (pc := 6) (i := .iload_n 3) (sr := 0) (j := 3) (by decide +kernel) rfl rfl rfl) ?_
  refine gm_sz (gm_p_load (pc := 7) (i := .iload 4) (sr := 0) (j := 4) (by decide +kernel) rfl rfl rfl) ?_
  refine gm_c_virtH (k := 1) (ci := 0) (mj := 190) (ix := 84) (pc := 9) (as := [gm_vi x0, gm_vi x1, gm_vi x2, gm_vi x3]) (st := [gm_vi 0, gm_vr 245]) (d' := d) (bc' := bc) (bs' := bs) (by decide +kernel) (by decide +kernel) (by decide +kernel) k1.1 k1.2 (by decide) (by decide +kernel) (show 4 = gm_na 190 by decide +kernel) (fun v hv => by simp only [List.mem_cons, List.not_mem_nil, or_false] at hv; rcases hv with rfl | rfl | rfl | rfl <;> simp [gm_sort]) (show 4 + 1 ≤ gm_ml 190 by decide +kernel) (Nat.le_of_ble_eq_true rfl) (Nat.le_refl _) (Nat.le_refl _) (Nat.le_refl _) ?_
  refine gm_Wp_mono (fun o n1 K1 R1 M1 hq => ?_) h
  obtain ⟨⟨hn, hK⟩, hq⟩ := hq
  rcases hq with ⟨v, rfl, hq⟩ | ⟨i, hi, rfl, hq⟩
  · show gm_Wp X LX (d + 1) _ _ 189 12 (gm_ent 189 [gm_vr 1, gm_vi x0, gm_vi x1, gm_vi x2, gm_vi x3, gm_vr 245]) [gm_vi v, gm_vi 0, gm_vr 245] n1 K1 R1 M1 Q
    refine gm_sz (gm_p_i2l (pc := 12) (by decide +kernel)) ?_
    refine gm_sz (gm_p_last (pc := 13) (k := 245) (by decide +kernel) ⟨by decide, hn⟩ (by rw [hK]) (by rw [hK]; decide)) ?_
    refine gm_sz (gm_p_goto (pc := 14) (off := 11) (by decide +kernel) (by decide)) ?_
    refine gm_sz (gm_p_const (pc := 25) (i := .iconst 0) (v := gm_vi 0) (by decide +kernel) (by decide +kernel)) ?_
    exact gm_r_int (pc := 26) (by decide +kernel) (Or.inl (by decide +kernel)) hq
  · simp only [List.mem_cons, List.not_mem_nil, or_false] at hi
    rcases hi with rfl | rfl
    · show (match gm_hit (gm_ow 189) 9 3 false (gm_hh 189) with
      | some (some h) => gm_Wp X LX (d + 1) _ _ 189 h (gm_ent 189 [gm_vr 1, gm_vi x0, gm_vi x1, gm_vi x2, gm_vi x3, gm_vr 245]) [gm_vo 4000] n1 K1 R1 M1 Q
      | some none => Q (.inr 3) n1 K1 R1 M1
      | none => False)
      rw [hl_189_3]
      show gm_Wp X LX (d + 1) _ _ 189 17 (gm_ent 189 [gm_vr 1, gm_vi x0, gm_vi x1, gm_vi x2, gm_vi x3, gm_vr 245]) [gm_vo 4000] n1 K1 R1 M1 Q
      refine gm_sz (gm_p_stor (pc := 17) (i := .astore 6) (sr := 2) (j := 6) (by decide +kernel) rfl (show 7 ≤ _ from Nat.le_of_ble_eq_true rfl) rfl) ?_
      refine gm_sz (gm_p_const (pc := 19) (i := .iconst 1) (v := gm_vi 1) (by decide +kernel) (by decide +kernel)) ?_
      exact gm_r_int (pc := 20) (by decide +kernel) (Or.inl (by decide +kernel)) hq
    · show (match gm_hit (gm_ow 189) 9 0 false (gm_hh 189) with
      | some (some h) => gm_Wp X LX (d + 1) _ _ 189 h (gm_ent 189 [gm_vr 1, gm_vi x0, gm_vi x1, gm_vi x2, gm_vi x3, gm_vr 245]) [gm_vo 4000] n1 K1 R1 M1 Q
      | some none => Q (.inr 0) n1 K1 R1 M1
      | none => False)
      rw [hl_189_0]
      show gm_Wp X LX (d + 1) _ _ 189 21 (gm_ent 189 [gm_vr 1, gm_vi x0, gm_vi x1, gm_vi x2, gm_vi x3, gm_vr 245]) [gm_vo 4000] n1 K1 R1 M1 Q
      refine gm_sz (gm_p_stor (pc := 21) (i := .astore 6) (sr := 2) (j := 6) (by decide +kernel) rfl (show 7 ≤ _ from Nat.le_of_ble_eq_true rfl) rfl) ?_
      refine gm_sz (gm_p_const (pc := 23) (i := .iconst 2) (v := gm_vi 2) (by decide +kernel) (by decide +kernel)) ?_
      exact gm_r_int (pc := 24) (by decide +kernel) (Or.inl (by decide +kernel)) hq
theorem hl_191_3 : gm_hit (gm_ow 191) 5 3 false (gm_hh 191) = some (some 13) := by decide +kernel
theorem hl_191 {x0 x1 : Int} (k1 : (1 ≤ 1 ∧ 1 ≤ n) ∧ (K 1).1 = 0 + 4) (h : gm_Wp X LX d bc bs 192 0 (gm_ent 192 [gm_vr 1, gm_vi x0, gm_vi x1]) [] n K R M (hQ [(3, 1)] Q)) : gm_Wp X LX (d + 1) bc bs 191 0 (gm_ent 191 [gm_vr 1, gm_vi x0, gm_vi x1, gm_vr 245]) [] n K R M Q := by
  refine gm_sz (gm_p_load (pc := 0) (i := .aload_n 3) (sr := 2) (j := 3) (by decide +kernel) rfl rfl rfl) ?_
  refine gm_sz (gm_p_const (pc := 1) (i := .iconst 0) (v := gm_vi 0) (by decide +kernel) (by decide +kernel)) ?_
  refine gm_sz (gm_p_load (pc := 2) (i := .aload_n 0) (sr := 2) (j := 0) (by decide +kernel) rfl rfl rfl) ?_
  refine gm_sz (gm_p_load (pc := 3) (i := .iload_n 1) (sr := 0) (j := 1) (by decide +kernel) rfl rfl rfl) ?_
  refine gm_sz (gm_p_load (pc := 4) (i := .iload_n 2) (sr := 0) (j := 2) (by decide +kernel) rfl rfl rfl) ?_
  refine gm_c_virtH (k := 1) (ci := 0) (mj := 192) (ix := 87) (pc := 5) (as := [gm_vi x0, gm_vi x1]) (st := [gm_vi 0, gm_vr 245]) (d' := d) (bc' := bc) (bs' := bs) (by decide +kernel) (by decide +kernel) (by decide +kernel) k1.1 k1.2 (by decide) (by decide +kernel) (show 2 = gm_na 192 by decide +kernel) (fun v hv => by simp only [List.mem_cons, List.not_mem_nil, or_false] at hv; rcases hv with rfl | rfl <;> simp [gm_sort]) (show 2 + 1 ≤ gm_ml 192 by decide +kernel) (Nat.le_of_ble_eq_true rfl) (Nat.le_refl _) (Nat.le_refl _) (Nat.le_refl _) ?_
  refine gm_Wp_mono (fun o n1 K1 R1 M1 hq => ?_) h
  obtain ⟨⟨hn, hK⟩, hq⟩ := hq
  rcases hq with ⟨v, rfl, hq⟩ | ⟨i, hi, rfl, hq⟩
  · show gm_Wp X LX (d + 1) _ _ 191 8 (gm_ent 191 [gm_vr 1, gm_vi x0, gm_vi x1, gm_vr 245]) [gm_vi v, gm_vi 0, gm_vr 245] n1 K1 R1 M1 Q
    refine gm_sz (gm_p_i2l (pc := 8) (by decide +kernel)) ?_
    refine gm_sz (gm_p_last (pc := 9) (k := 245) (by decide +kernel) ⟨by decide, hn⟩ (by rw [hK]) (by rw [hK]; decide)) ?_
    refine gm_sz (gm_p_goto (pc := 10) (off := 7) (by decide +kernel) (by decide)) ?_
    refine gm_sz (gm_p_const (pc := 17) (i := .iconst 0) (v := gm_vi 0) (by decide +kernel) (by decide +kernel)) ?_
    exact gm_r_int (pc := 18) (by decide +kernel) (Or.inl (by decide +kernel)) hq
  · simp only [List.mem_cons, List.not_mem_nil, or_false] at hi
    rcases hi with rfl
    · show (match gm_hit (gm_ow 191) 5 3 false (gm_hh 191) with
      | some (some h) => gm_Wp X LX (d + 1) _ _ 191 h (gm_ent 191 [gm_vr 1, gm_vi x0, gm_vi x1, gm_vr 245]) [gm_vo 4000] n1 K1 R1 M1 Q
      | some none => Q (.inr 3) n1 K1 R1 M1
      | none => False)
      rw [hl_191_3]
      show gm_Wp X LX (d + 1) _ _ 191 13 (gm_ent 191 [gm_vr 1, gm_vi x0, gm_vi x1, gm_vr 245]) [gm_vo 4000] n1 K1 R1 M1 Q
      refine gm_sz (gm_p_stor (pc := 13) (i := .astore 4) (sr := 2) (j := 4) (by decide +kernel) rfl (show 5 ≤ _ from Nat.le_of_ble_eq_true rfl) rfl) ?_
      refine gm_sz (gm_p_const (pc := 15) (i := .iconst 1) (v := gm_vi 1) (by decide +kernel) (by decide +kernel)) ?_
      exact gm_r_int (pc := 16) (by decide +kernel) (Or.inl (by decide +kernel)) hq
theorem hl_196_0 : gm_hit (gm_ow 196) 3 0 false (gm_hh 196) = some (some 11) := by decide +kernel
theorem hl_196 (k1 : (1 ≤ 1 ∧ 1 ≤ n) ∧ (K 1).1 = 0 + 4) (h : gm_Wp X LX d bc bs 197 0 (gm_ent 197 [gm_vr 1]) [] n K R M (hQ [(0, 1)] Q)) : gm_Wp X LX (d + 1) bc bs 196 0 (gm_ent 196 [gm_vr 1, gm_vr 245]) [] n K R M Q := by
  refine gm_sz (gm_p_load (pc := 0) (i := .aload_n 1) (sr := 2) (j := 1) (by decide +kernel) rfl rfl rfl) ?_
  refine gm_sz (gm_p_const (pc := 1) (i := .iconst 0) (v := gm_vi 0) (by decide +kernel) (by decide +kernel)) ?_
  refine gm_sz (gm_p_load (pc := 2) (i := .aload_n 0) (sr := 2) (j := 0) (by decide +kernel) rfl rfl rfl) ?_
  refine gm_c_virtH (k := 1) (ci := 0) (mj := 197) (ix := 94) (pc := 3) (as := []) (st := [gm_vi 0, gm_vr 245]) (d' := d) (bc' := bc) (bs' := bs) (by decide +kernel) (by decide +kernel) (by decide +kernel) k1.1 k1.2 (by decide) (by decide +kernel) (show 0 = gm_na 197 by decide +kernel) fw_c0 (show 0 + 1 ≤ gm_ml 197 by decide +kernel) (Nat.le_of_ble_eq_true rfl) (Nat.le_refl _) (Nat.le_refl _) (Nat.le_refl _) ?_
  refine gm_Wp_mono (fun o n1 K1 R1 M1 hq => ?_) h
  obtain ⟨⟨hn, hK⟩, hq⟩ := hq
  rcases hq with ⟨v, rfl, hq⟩ | ⟨i, hi, rfl, hq⟩
  · show gm_Wp X LX (d + 1) _ _ 196 6 (gm_ent 196 [gm_vr 1, gm_vr 245]) [gm_vi v, gm_vi 0, gm_vr 245] n1 K1 R1 M1 Q
    refine gm_sz (gm_p_i2l (pc := 6) (by decide +kernel)) ?_
    refine gm_sz (gm_p_last (pc := 7) (k := 245) (by decide +kernel) ⟨by decide, hn⟩ (by rw [hK]) (by rw [hK]; decide)) ?_
    refine gm_sz (gm_p_goto (pc := 8) (off := 6) (by decide +kernel) (by decide)) ?_
    refine gm_sz (gm_p_const (pc := 14) (i := .iconst 0) (v := gm_vi 0) (by decide +kernel) (by decide +kernel)) ?_
    exact gm_r_int (pc := 15) (by decide +kernel) (Or.inl (by decide +kernel)) hq
  · simp only [List.mem_cons, List.not_mem_nil, or_false] at hi
    rcases hi with rfl
    · show (match gm_hit (gm_ow 196) 3 0 false (gm_hh 196) with
      | some (some h) => gm_Wp X LX (d + 1) _ _ 196 h (gm_ent 196 [gm_vr 1, gm_vr 245]) [gm_vo 4000] n1 K1 R1 M1 Q
      | some none => Q (.inr 0) n1 K1 R1 M1
      | none => False)
      rw [hl_196_0]
      show gm_Wp X LX (d + 1) _ _ 196 11 (gm_ent 196 [gm_vr 1, gm_vr 245]) [gm_vo 4000] n1 K1 R1 M1 Q
      refine gm_sz (gm_p_stor (pc := 11) (i := .astore_n 2) (sr := 2) (j := 2) (by decide +kernel) rfl (show 3 ≤ _ from Nat.le_of_ble_eq_true rfl) rfl) ?_
      refine gm_sz (gm_p_const (pc := 12) (i := .iconst 1) (v := gm_vi 1) (by decide +kernel) (by decide +kernel)) ?_
      exact gm_r_int (pc := 13) (by decide +kernel) (Or.inl (by decide +kernel)) hq
theorem hl_200_3 : gm_hit (gm_ow 200) 7 3 false (gm_hh 200) = some (some 15) := by decide +kernel
theorem hl_200_0 : gm_hit (gm_ow 200) 7 0 false (gm_hh 200) = some (some 19) := by decide +kernel
theorem hl_200 {x0 x1 x2 : Int} (k1 : (1 ≤ 1 ∧ 1 ≤ n) ∧ (K 1).1 = 0 + 4) (h : gm_Wp X LX d bc bs 201 0 (gm_ent 201 [gm_vr 1, gm_vi x0, gm_vi x1, gm_vi x2]) [] n K R M (hQ [(3, 1), (0, 2)] Q)) : gm_Wp X LX (d + 1) bc bs 200 0 (gm_ent 200 [gm_vr 1, gm_vi x0, gm_vi x1, gm_vi x2, gm_vr 245]) [] n K R M Q := by
  refine gm_sz (gm_p_load (pc := 0) (i := .aload 4) (sr := 2) (j := 4) (by decide +kernel) rfl rfl rfl) ?_
  refine gm_sz (gm_p_const (pc := 2) (i := .iconst 0) (v := gm_vi 0) (by decide +kernel) (by decide +kernel)) ?_
  refine gm_sz (gm_p_load (pc := 3) (i := .aload_n 0) (sr := 2) (j := 0) (by decide +kernel) rfl rfl rfl) ?_
  refine gm_sz (gm_p_load (pc := 4) (i := .iload_n 1) (sr := 0) (j := 1) (by decide +kernel) rfl rfl rfl) ?_
  refine gm_sz (gm_p_load (pc := 5) (i := .iload_n 2) (sr := 0) (j := 2) (by decide +kernel) rfl rfl rfl) ?_
  refine gm_sz (gm_p_load (pc := 6) (i := .iload_n 3) (sr := 0) (j := 3) (by decide +kernel) rfl rfl rfl) ?_
  refine gm_c_virtH (k := 1) (ci := 0) (mj := 201) (ix := 97) (pc := 7) (as := [gm_vi x0, gm_vi x1, gm_vi x2]) (st := [gm_vi 0, gm_vr 245]) (d' := d) (bc' := bc) (bs' := bs) (by decide +kernel) (by decide +kernel) (by decide +kernel) k1.1 k1.2 (by decide) (by decide +kernel) (show 3 = gm_na 201 by decide +kernel) (fun v hv => by simp only [List.mem_cons, List.not_mem_nil, or_false] at hv; rcases hv with rfl | rfl | rfl <;> simp [gm_sort]) (show 3 + 1 ≤ gm_ml 201 by decide +kernel) (Nat.le_of_ble_eq_true rfl) (Nat.le_refl _) (Nat.le_refl _) (Nat.le_refl _) ?_
  refine gm_Wp_mono (fun o n1 K1 R1 M1 hq => ?_) h
  obtain ⟨⟨hn, hK⟩, hq⟩ := hq
  rcases hq with ⟨v, rfl, hq⟩ | ⟨i, hi, rfl, hq⟩
  · show gm_Wp X LX (d + 1) _ _ 200 10 (gm_ent 200 [gm_vr 1, gm_vi x0, gm_vi x1, gm_vi x2, gm_vr 245]) [gm_vi v, gm_vi 0, gm_vr 245] n1 K1 R1 M1 Q
    refine gm_sz (gm_p_i2l (pc := 10) (by decide +kernel)) ?_
    refine gm_sz (gm_p_last (pc := 11) (k := 245) (by decide +kernel) ⟨by decide, hn⟩ (by rw [hK]) (by rw [hK]; decide)) ?_
    refine gm_sz (gm_p_goto (pc := 12) (off := 11) (by decide +kernel) (by decide)) ?_
    refine gm_sz (gm_p_const (pc := 23) (i := .iconst 0) (v := gm_vi 0) (by decide +kernel) (by decide +kernel)) ?_
    exact gm_r_int (pc := 24) (by decide +kernel) (Or.inl (by decide +kernel)) hq
  · simp only [List.mem_cons, List.not_mem_nil, or_false] at hi
    rcases hi with rfl | rfl
    · show (match gm_hit (gm_ow 200) 7 3 false (gm_hh 200) with
      | some (some h) => gm_Wp X LX (d + 1) _ _ 200 h (gm_ent 200 [gm_vr 1, gm_vi x0, gm_vi x1, gm_vi x2, gm_vr 245]) [gm_vo 4000] n1 K1 R1 M1 Q
      | some none => Q (.inr 3) n1 K1 R1 M1
      | none => False)
      rw [hl_200_3]
      show gm_Wp X LX (d + 1) _ _ 200 15 (gm_ent 200 [gm_vr 1, gm_vi x0, gm_vi x1, gm_vi x2, gm_vr 245]) [gm_vo 4000] n1 K1 R1 M1 Q
      refine gm_sz (gm_p_stor (pc := 15) (i := .astore 5) (sr := 2) (j := 5) (by decide +kernel) rfl (show 6 ≤ _ from Nat.le_of_ble_eq_true rfl) rfl) ?_
      refine gm_sz (gm_p_const (pc := 17) (i := .iconst 1) (v := gm_vi 1) (by decide +kernel) (by decide +kernel)) ?_
      exact gm_r_int (pc := 18) (by decide +kernel) (Or.inl (by decide +kernel)) hq
    · show (match gm_hit (gm_ow 200) 7 0 false (gm_hh 200) with
      | some (some h) => gm_Wp X LX (d + 1) _ _ 200 h (gm_ent 200 [gm_vr 1, gm_vi x0, gm_vi x1, gm_vi x2, gm_vr 245]) [gm_vo 4000] n1 K1 R1 M1 Q
      | some none => Q (.inr 0) n1 K1 R1 M1
      | none => False)
      rw [hl_200_0]
      show gm_Wp X LX (d + 1) _ _ 200 19 (gm_ent 200 [gm_vr 1, gm_vi x0, gm_vi x1, gm_vi x2, gm_vr 245]) [gm_vo 4000] n1 K1 R1 M1 Q
      refine gm_sz (gm_p_stor (pc := 19) (i := .astore 5) (sr := 2) (j := 5) (by decide +kernel) rfl (show 6 ≤ _ from Nat.le_of_ble_eq_true rfl) rfl) ?_
      refine gm_sz (gm_p_const (pc := 21) (i := .iconst 2) (v := gm_vi 2) (by decide +kernel) (by decide +kernel)) ?_
      exact gm_r_int (pc := 22) (by decide +kernel) (Or.inl (by decide +kernel)) hq
theorem hl_206_3 : gm_hit (gm_ow 206) 7 3 false (gm_hh 206) = some (some 15) := by decide +kernel
theorem hl_206_0 : gm_hit (gm_ow 206) 7 0 false (gm_hh 206) = some (some 19) := by decide +kernel
theorem hl_206 {x0 x1 x2 : Int} (k1 : (1 ≤ 1 ∧ 1 ≤ n) ∧ (K 1).1 = 0 + 4) (h : gm_Wp X LX d bc bs 207 0 (gm_ent 207 [gm_vr 1, gm_vi x0, gm_vi x1, gm_vi x2]) [] n K R M (hQ [(3, 1), (0, 2)] Q)) : gm_Wp X LX (d + 1) bc bs 206 0 (gm_ent 206 [gm_vr 1, gm_vi x0, gm_vi x1, gm_vi x2, gm_vr 245]) [] n K R M Q := by
  refine gm_sz (gm_p_load (pc := 0) (i := .aload 4) (sr := 2) (j := 4) (by decide +kernel) rfl rfl rfl) ?_
  refine gm_sz (gm_p_const (pc := 2) (i := .iconst 0) (v := gm_vi 0) (by decide +kernel) (by decide +kernel)) ?_
  refine gm_sz (gm_p_load (pc := 3) (i := .aload_n 0) (sr := 2) (j := 0) (by decide +kernel) rfl rfl rfl) ?_
  refine gm_sz (gm_p_load (pc := 4) (i := .iload_n 1) (sr := 0) (j := 1) (by decide +kernel) rfl rfl rfl) ?_
  refine gm_sz (gm_p_load (pc := 5) (i := .iload_n 2) (sr := 0) (j := 2) (by decide +kernel) rfl rfl rfl) ?_
  refine gm_sz (gm_p_load (pc := 6) (i := .iload_n 3) (sr := 0) (j := 3) (by decide +kernel) rfl rfl rfl) ?_
  refine gm_c_virtH (k := 1) (ci := 0) (mj := 207) (ix := 101) (pc := 7) (as := [gm_vi x0, gm_vi x1, gm_vi x2]) (st := [gm_vi 0, gm_vr 245]) (d' := d) (bc' := bc) (bs' := bs) (by decide +kernel) (by decide +kernel) (by decide +kernel) k1.1 k1.2 (by decide) (by decide +kernel) (show 3 = gm_na 207 by decide +kernel) (fun v hv => by simp only [List.mem_cons, List.not_mem_nil, or_false] at hv; rcases hv with rfl | rfl | rfl <;> simp [gm_sort]) (show 3 + 1 ≤ gm_ml 207 by decide +kernel) (Nat.le_of_ble_eq_true rfl) (Nat.le_refl _) (Nat.le_refl _) (Nat.le_refl _) ?_
  refine gm_Wp_mono (fun o n1 K1 R1 M1 hq => ?_) h
  obtain ⟨⟨hn, hK⟩, hq⟩ := hq
  rcases hq with ⟨v, rfl, hq⟩ | ⟨i, hi, rfl, hq⟩
  · show gm_Wp X LX (d + 1) _ _ 206 10 (gm_ent 206 [gm_vr 1, gm_vi x0, gm_vi x1, gm_vi x2, gm_vr 245]) [gm_vi v, gm_vi 0, gm_vr 245] n1 K1 R1 M1 Q
    refine gm_sz (gm_p_i2l (pc := 10) (by decide +kernel)) ?_
    refine gm_sz (gm_p_last (pc := 11) (k := 245) (by decide +kernel) ⟨by decide, hn⟩ (by rw [hK]) (by rw [hK]; decide)) ?_
    refine gm_sz (gm_p_goto (pc := 12) (off := 11) (by decide +kernel) (by decide)) ?_
    refine gm_sz (gm_p_const (pc := 23) (i := .iconst 0) (v := gm_vi 0) (by decide +kernel) (by decide +kernel)) ?_
    exact gm_r_int (pc := 24) (by decide +kernel) (Or.inl (by decide +kernel)) hq
  · simp only [List.mem_cons, List.not_mem_nil, or_false] at hi
    rcases hi with rfl | rfl
    · show (match gm_hit (gm_ow 206) 7 3 false (gm_hh 206) with
      | some (some h) => gm_Wp X LX (d + 1) _ _ 206 h (gm_ent 206 [gm_vr 1, gm_vi x0, gm_vi x1, gm_vi x2, gm_vr 245]) [gm_vo 4000] n1 K1 R1 M1 Q
      | some none => Q (.inr 3) n1 K1 R1 M1
      | none => False)
      rw [hl_206_3]
      show gm_Wp X LX (d + 1) _ _ 206 15 (gm_ent 206 [gm_vr 1, gm_vi x0, gm_vi x1, gm_vi x2, gm_vr 245]) [gm_vo 4000] n1 K1 R1 M1 Q
      refine gm_sz (gm_p_stor (pc := 15) (i := .astore 5) (sr := 2) (j := 5) (by decide +kernel) rfl (show 6 ≤ _ from Nat.le_of_ble_eq_true rfl) rfl) ?_
      refine gm_sz (gm_p_const (pc := 17) (i := .iconst 1) (v := gm_vi 1) (by decide +kernel) (by decide +kernel)) ?_
      exact gm_r_int (pc := 18) (by decide +kernel) (Or.inl (by decide +kernel)) hq
    · show (match gm_hit (gm_ow 206) 7 0 false (gm_hh 206) with
      | some (some h) => gm_Wp X LX (d + 1) _ _ 206 h (gm_ent 206 [gm_vr 1, gm_vi x0, gm_vi x1, gm_vi x2, gm_vr 245]) [gm_vo 4000] n1 K1 R1 M1 Q
      | some none => Q (.inr 0) n1 K1 R1 M1
      | none => False)
      rw [hl_206_0]
      show gm_Wp X LX (d + 1) _ _ 206 19 (gm_ent 206 [gm_vr 1, gm_vi x0, gm_vi x1, gm_vi x2, gm_vr 245]) [gm_vo 4000] n1 K1 R1 M1 Q
      refine gm_sz (gm_p_stor (pc := 19) (i := .astore 5) (sr := 2) (j := 5) (by decide +kernel) rfl (show 6 ≤ _ from Nat.le_of_ble_eq_true rfl) rfl) ?_
      refine gm_sz (gm_p_const (pc := 21) (i := .iconst 2) (v := gm_vi 2) (by decide +kernel) (by decide +kernel)) ?_
      exact gm_r_int (pc := 22) (by decide +kernel) (Or.inl (by decide +kernel)) hq
theorem hl_210_3 : gm_hit (gm_ow 210) 5 3 false (gm_hh 210) = some (some 13) := by decide +kernel
theorem hl_210_0 : gm_hit (gm_ow 210) 5 0 false (gm_hh 210) = some (some 17) := by decide +kernel
theorem hl_210 {x0 x1 : Int} (k1 : (1 ≤ 1 ∧ 1 ≤ n) ∧ (K 1).1 = 0 + 4) (h : gm_Wp X LX d bc bs 211 0 (gm_ent 211 [gm_vr 1, gm_vi x0, gm_vi x1]) [] n K R M (hQ [(3, 1), (0, 2)] Q)) : gm_Wp X LX (d + 1) bc bs 210 0 (gm_ent 210 [gm_vr 1, gm_vi x0, gm_vi x1, gm_vr 245]) [] n K R M Q := by
  refine gm_sz (gm_p_load (pc := 0) (i := .aload_n 3) (sr := 2) (j := 3) (by decide +kernel) rfl rfl rfl) ?_
  refine gm_sz (gm_p_const (pc := 1) (i := .iconst 0) (v := gm_vi 0) (by decide +kernel) (by decide +kernel)) ?_
  refine gm_sz (gm_p_load (pc := 2) (i := .aload_n 0) (sr := 2) (j := 0) (by decide +kernel) rfl rfl rfl) ?_
  refine gm_sz (gm_p_load (pc := 3) (i := .iload_n 1) (sr := 0) (j := 1) (by decide +kernel) rfl rfl rfl) ?_
  refine gm_sz (gm_p_load (pc := 4) (i := .iload_n 2) (sr := 0) (j := 2) (by decide +kernel) rfl rfl rfl) ?_
  refine gm_c_virtH (k := 1) (ci := 0) (mj := 211) (ix := 104) (pc := 5) (as := [gm_vi x0, gm_vi x1]) (st := [gm_vi 0, gm_vr 245]) (d' := d) (bc' := bc) (bs' := bs) (by decide +kernel) (by decide +kernel) (by decide +kernel) k1.1 k1.2 (by decide) (by decide +kernel) (show 2 = gm_na 211 by decide +kernel) (fun v hv => by simp only [List.mem_cons, List.not_mem_nil, or_false] at hv; rcases hv with rfl | rfl <;> simp [gm_sort]) (show 2 + 1 ≤ gm_ml 211 by decide +kernel) (Nat.le_of_ble_eq_true rfl) (Nat.le_refl _) (Nat.le_refl _) (Nat.le_refl _) ?_
  refine gm_Wp_mono (fun o n1 K1 R1 M1 hq => ?_) h
  obtain ⟨⟨hn, hK⟩, hq⟩ := hq
  rcases hq with ⟨v, rfl, hq⟩ | ⟨i, hi, rfl, hq⟩
  · show gm_Wp X LX (d + 1) _ _ 210 8 (gm_ent 210 [gm_vr 1, gm_vi x0, gm_vi x1, gm_vr 245]) [gm_vi v, gm_vi 0, gm_vr 245] n1 K1 R1 M1 Q
    refine gm_sz (gm_p_i2l (pc := 8) (by decide +kernel)) ?_
    refine gm_sz (gm_p_last (pc := 9) (k := 245) (by decide +kernel) ⟨by decide, hn⟩ (by rw [hK]) (by rw [hK]; decide)) ?_
    refine gm_sz (gm_p_goto (pc := 10) (off := 11) (by decide +kernel) (by decide)) ?_
    refine gm_sz (gm_p_const (pc := 21) (i := .iconst 0) (v := gm_vi 0) (by decide +kernel) (by decide +kernel)) ?_
    exact gm_r_int (pc := 22) (by decide +kernel) (Or.inl (by decide +kernel)) hq
  · simp only [List.mem_cons, List.not_mem_nil, or_false] at hi
    rcases hi with rfl | rfl
    · show (match gm_hit (gm_ow 210) 5 3 false (gm_hh 210) with
      | some (some h) => gm_Wp X LX (d + 1) _ _ 210 h (gm_ent 210 [gm_vr 1, gm_vi x0, gm_vi x1, gm_vr 245]) [gm_vo 4000] n1 K1 R1 M1 Q
      | some none => Q (.inr 3) n1 K1 R1 M1
      | none => False)
      rw [hl_210_3]
      show gm_Wp X LX (d + 1) _ _ 210 13 (gm_ent 210 [gm_vr 1, gm_vi x0, gm_vi x1, gm_vr 245]) [gm_vo 4000] n1 K1 R1 M1 Q
      refine gm_sz (gm_p_stor (pc := 13) (i := .astore 4) (sr := 2) (j := 4) (by decide +kernel) rfl (show 5 ≤ _ from Nat.le_of_ble_eq_true rfl) rfl) ?_
      refine gm_sz (gm_p_const (pc := 15) (i := .iconst 1) (v := gm_vi 1) (by decide +kernel) (by decide +kernel)) ?_
      exact gm_r_int (pc := 16) (by decide +kernel) (Or.inl (by decide +kernel)) hq
    · show (match gm_hit (gm_ow 210) 5 0 false (gm_hh 210) with
      | some (some h) => gm_Wp X LX (d + 1) _ _ 210 h (gm_ent 210 [gm_vr 1, gm_vi x0, gm_vi x1, gm_vr 245]) [gm_vo 4000] n1 K1 R1 M1 Q
      | some none => Q (.inr 0) n1 K1 R1 M1
      | none => False)
      rw [hl_210_0]
      show gm_Wp X LX (d + 1) _ _ 210 17 (gm_ent 210 [gm_vr 1, gm_vi x0, gm_vi x1, gm_vr 245]) [gm_vo 4000] n1 K1 R1 M1 Q
      refine gm_sz (gm_p_stor (pc := 17) (i := .astore 4) (sr := 2) (j := 4) (by decide +kernel) rfl (show 5 ≤ _ from Nat.le_of_ble_eq_true rfl) rfl) ?_
      refine gm_sz (gm_p_const (pc := 19) (i := .iconst 2) (v := gm_vi 2) (by decide +kernel) (by decide +kernel)) ?_
      exact gm_r_int (pc := 20) (by decide +kernel) (Or.inl (by decide +kernel)) hq
theorem hl_212_0 : gm_hit (gm_ow 212) 5 0 false (gm_hh 212) = some (some 13) := by decide +kernel
theorem hl_212 {x0 x1 : Int} (k1 : (1 ≤ 1 ∧ 1 ≤ n) ∧ (K 1).1 = 0 + 4) (h : gm_Wp X LX d bc bs 213 0 (gm_ent 213 [gm_vr 1, gm_vi x0, gm_vi x1]) [] n K R M (hQ [(0, 1)] Q)) : gm_Wp X LX (d + 1) bc bs 212 0 (gm_ent 212 [gm_vr 1, gm_vi x0, gm_vi x1, gm_vr 245]) [] n K R M Q := by
  refine gm_sz (gm_p_load (pc := 0) (i := .aload_n 3) (sr := 2) (j := 3) (by decide +kernel) rfl rfl rfl) ?_
  refine gm_sz (gm_p_const (pc := 1) (i := .iconst 0) (v := gm_vi 0) (by decide +kernel) (by decide +kernel)) ?_
  refine gm_sz (gm_p_load (pc := 2) (i := .aload_n 0) (sr := 2) (j := 0) (by decide +kernel) rfl rfl rfl) ?_
  refine gm_sz (gm_p_load (pc := 3) (i := .iload_n 1) (sr := 0) (j := 1) (by decide +kernel) rfl rfl rfl) ?_
  refine gm_sz (gm_p_load (pc := 4) (i := .iload_n 2) (sr := 0) (j := 2) (by decide +kernel) rfl rfl rfl) ?_
  refine gm_c_virtH (k := 1) (ci := 0) (mj := 213) (ix := 107) (pc := 5) (as := [gm_vi x0, gm_vi x1]) (st := [gm_vi 0, gm_vr 245]) (d' := d) (bc' := bc) (bs' := bs) (by decide +kernel) (by decide +kernel) (by decide +kernel) k1.1 k1.2 (by decide) (by decide +kernel) (show 2 = gm_na 213 by decide +kernel) (fun v hv => by simp only [List.mem_cons, List.not_mem_nil, or_false] at hv; rcases hv with rfl | rfl <;> simp [gm_sort]) (show 2 + 1 ≤ gm_ml 213 by decide +kernel) (Nat.le_of_ble_eq_true rfl) (Nat.le_refl _) (Nat.le_refl _) (Nat.le_refl _) ?_
  refine gm_Wp_mono (fun o n1 K1 R1 M1 hq => ?_) h
  obtain ⟨⟨hn, hK⟩, hq⟩ := hq
  rcases hq with ⟨v, rfl, hq⟩ | ⟨i, hi, rfl, hq⟩
  · show gm_Wp X LX (d + 1) _ _ 212 8 (gm_ent 212 [gm_vr 1, gm_vi x0, gm_vi x1, gm_vr 245]) [gm_vi v, gm_vi 0, gm_vr 245] n1 K1 R1 M1 Q
    refine gm_sz (gm_p_i2l (pc := 8) (by decide +kernel)) ?_
    refine gm_sz (gm_p_last (pc := 9) (k := 245) (by decide +kernel) ⟨by decide, hn⟩ (by rw [hK]) (by rw [hK]; decide)) ?_
    refine gm_sz (gm_p_goto (pc := 10) (off := 7) (by decide +kernel) (by decide)) ?_
    refine gm_sz (gm_p_const (pc := 17) (i := .iconst 0) (v := gm_vi 0) (by decide +kernel) (by decide +kernel)) ?_
    exact gm_r_int (pc := 18) (by decide +kernel) (Or.inl (by decide +kernel)) hq
  · simp only [List.mem_cons, List.not_mem_nil, or_false] at hi
    rcases hi with rfl
    · show (match gm_hit (gm_ow 212) 5 0 false (gm_hh 212) with
      | some (some h) => gm_Wp X LX (d + 1) _ _ 212 h (gm_ent 212 [gm_vr 1, gm_vi x0, gm_vi x1, gm_vr 245]) [gm_vo 4000] n1 K1 R1 M1 Q
      | some none => Q (.inr 0) n1 K1 R1 M1
      | none => False)
      rw [hl_212_0]
      show gm_Wp X LX (d + 1) _ _ 212 13 (gm_ent 212 [gm_vr 1, gm_vi x0, gm_vi x1, gm_vr 245]) [gm_vo 4000] n1 K1 R1 M1 Q
      refine gm_sz (gm_p_stor (pc := 13) (i := .astore 4) (sr := 2) (j := 4) (by decide +kernel) rfl (show 5 ≤ _ from Nat.le_of_ble_eq_true rfl) rfl) ?_
      refine gm_sz (gm_p_const (pc := 15) (i := .iconst 1) (v := gm_vi 1) (by decide +kernel) (by decide +kernel)) ?_
      exact gm_r_int (pc := 16) (by decide +kernel) (Or.inl (by decide +kernel)) hq
theorem hl_217_0 : gm_hit (gm_ow 217) 5 0 false (gm_hh 217) = some (some 13) := by decide +kernel
theorem hl_217 {x0 x1 : Int} (k1 : (1 ≤ 1 ∧ 1 ≤ n) ∧ (K 1).1 = 0 + 4) (h : gm_Wp X LX d bc bs 218 0 (gm_ent 218 [gm_vr 1, gm_vi x0, gm_vi x1]) [] n K R M (hQ [(0, 1)] Q)) : gm_Wp X LX (d + 1) bc bs 217 0 (gm_ent 217 [gm_vr 1, gm_vi x0, gm_vi x1, gm_vr 245]) [] n K R M Q := by
  refine gm_sz (gm_p_load (pc := 0) (i := .aload_n 3) (sr := 2) (j := 3) (by decide +kernel) rfl rfl rfl) ?_
  refine gm_sz (gm_p_const (pc := 1) (i := .iconst 0) (v := gm_vi 0) (by decide +kernel) (by decide +kernel)) ?_
  refine gm_sz (gm_p_load (pc := 2) (i := .aload_n 0) (sr := 2) (j := 0) (by decide +kernel) rfl rfl rfl) ?_
  refine gm_sz (gm_p_load (pc := 3) (i := .iload_n 1) (sr := 0) (j := 1) (by decide +kernel) rfl rfl rfl) ?_
  refine gm_sz (gm_p_load (pc := 4) (i := .iload_n 2) (sr := 0) (j := 2) (by decide +kernel) rfl rfl rfl) ?_
  refine gm_c_virtH (k := 1) (ci := 0) (mj := 218) (ix := 111) (pc := 5) (as := [gm_vi x0, gm_vi x1]) (st := [gm_vi 0, gm_vr 245]) (d' := d) (bc' := bc) (bs' := bs) (by decide +kernel) (by decide +kernel) (by decide +kernel) k1.1 k1.2 (by decide) (by decide +kernel) (show 2 = gm_na 218 by decide +kernel) (fun v hv => by simp only [List.mem_cons, List.not_mem_nil, or_false] at hv; rcases hv with rfl | rfl <;> simp [gm_sort]) (show 2 + 1 ≤ gm_ml 218 by decide +kernel) (Nat.le_of_ble_eq_true rfl) (Nat.le_refl _) (Nat.le_refl _) (Nat.le_refl _) ?_
  refine gm_Wp_mono (fun o n1 K1 R1 M1 hq => ?_) h
  obtain ⟨⟨hn, hK⟩, hq⟩ := hq
  rcases hq with ⟨v, rfl, hq⟩ | ⟨i, hi, rfl, hq⟩
  · show gm_Wp X LX (d + 1) _ _ 217 8 (gm_ent 217 [gm_vr 1, gm_vi x0, gm_vi x1, gm_vr 245]) [gm_vi v, gm_vi 0, gm_vr 245] n1 K1 R1 M1 Q
    refine gm_sz (gm_p_i2l (pc := 8) (by decide +kernel)) ?_
    refine gm_sz (gm_p_last (pc := 9) (k := 245) (by decide +kernel) ⟨by decide, hn⟩ (by rw [hK]) (by rw [hK]; decide)) ?_
    refine gm_sz (gm_p_goto (pc := 10) (off := 7) (by decide +kernel) (by decide)) ?_
    refine gm_sz (gm_p_const (pc := 17) (i := .iconst 0) (v := gm_vi 0) (by decide +kernel) (by decide +kernel)) ?_
    exact gm_r_int (pc := 18) (by decide +kernel) (Or.inl (by decide +kernel)) hq
  · simp only [List.mem_cons, List.not_mem_nil, or_false] at hi
    rcases hi with rfl
    · show (match gm_hit (gm_ow 217) 5 0 false (gm_hh 217) with
      | some (some h) => gm_Wp X LX (d + 1) _ _ 217 h (gm_ent 217 [gm_vr 1, gm_vi x0, gm_vi x1, gm_vr 245]) [gm_vo 4000] n1 K1 R1 M1 Q
      | some none => Q (.inr 0) n1 K1 R1 M1
      | none => False)
      rw [hl_217_0]
      show gm_Wp X LX (d + 1) _ _ 217 13 (gm_ent 217 [gm_vr 1, gm_vi x0, gm_vi x1, gm_vr 245]) [gm_vo 4000] n1 K1 R1 M1 Q
      refine gm_sz (gm_p_stor (pc := 13) (i := .astore 4) (sr := 2) (j := 4) (by decide +kernel) rfl (show 5 ≤ _ from Nat.le_of_ble_eq_true rfl) rfl) ?_
      refine gm_sz (gm_p_const (pc := 15) (i := .iconst 1) (v := gm_vi 1) (by decide +kernel) (by decide +kernel)) ?_
      exact gm_r_int (pc := 16) (by decide +kernel) (Or.inl (by decide +kernel)) hq
theorem hl_220_3 : gm_hit (gm_ow 220) 5 3 false (gm_hh 220) = some (some 13) := by decide +kernel
theorem hl_220_0 : gm_hit (gm_ow 220) 5 0 false (gm_hh 220) = some (some 17) := by decide +kernel
theorem hl_220 {x0 x1 : Int} (k1 : (1 ≤ 1 ∧ 1 ≤ n) ∧ (K 1).1 = 0 + 4) (h : gm_Wp X LX d bc bs 221 0 (gm_ent 221 [gm_vr 1, gm_vi x0, gm_vi x1]) [] n K R M (hQ [(3, 1), (0, 2)] Q)) : gm_Wp X LX (d + 1) bc bs 220 0 (gm_ent 220 [gm_vr 1, gm_vi x0, gm_vi x1, gm_vr 245]) [] n K R M Q := by
  refine gm_sz (gm_p_load (pc := 0) (i := .aload_n 3) (sr := 2) (j := 3) (by decide +kernel) rfl rfl rfl) ?_
  refine gm_sz (gm_p_const (pc := 1) (i := .iconst 0) (v := gm_vi 0) (by decide +kernel) (by decide +kernel)) ?_
  refine gm_sz (gm_p_load (pc := 2) (i := .aload_n 0) (sr := 2) (j := 0) (by decide +kernel) rfl rfl rfl) ?_
  refine gm_sz (gm_p_load (pc := 3) (i := .iload_n 1) (sr := 0) (j := 1) (by decide +kernel) rfl rfl rfl) ?_
  refine gm_sz (gm_p_load (pc := 4) (i := .iload_n 2) (sr := 0) (j := 2) (by decide +kernel) rfl rfl rfl) ?_
  refine gm_c_virtH (k := 1) (ci := 0) (mj := 221) (ix := 114) (pc := 5) (as := [gm_vi x0, gm_vi x1]) (st := [gm_vi 0, gm_vr 245]) (d' := d) (bc' := bc) (bs' := bs) (by decide +kernel) (by decide +kernel) (by decide +kernel) k1.1 k1.2 (by decide) (by decide +kernel) (show 2 = gm_na 221 by decide +kernel) (fun v hv => by simp only [List.mem_cons, List.not_mem_nil, or_false] at hv; rcases hv with rfl | rfl <;> simp [gm_sort]) (show 2 + 1 ≤ gm_ml 221 by decide +kernel) (Nat.le_of_ble_eq_true rfl) (Nat.le_refl _) (Nat.le_refl _) (Nat.le_refl _) ?_
  refine gm_Wp_mono (fun o n1 K1 R1 M1 hq => ?_) h
  obtain ⟨⟨hn, hK⟩, hq⟩ := hq
  rcases hq with ⟨v, rfl, hq⟩ | ⟨i, hi, rfl, hq⟩
  · show gm_Wp X LX (d + 1) _ _ 220 8 (gm_ent 220 [gm_vr 1, gm_vi x0, gm_vi x1, gm_vr 245]) [gm_vi v, gm_vi 0, gm_vr 245] n1 K1 R1 M1 Q
    refine gm_sz (gm_p_i2l (pc := 8) (by decide +kernel)) ?_
    refine gm_sz (gm_p_last (pc := 9) (k := 245) (by decide +kernel) ⟨by decide, hn⟩ (by rw [hK]) (by rw [hK]; decide)) ?_
    refine gm_sz (gm_p_goto (pc := 10) (off := 11) (by decide +kernel) (by decide)) ?_
    refine gm_sz (gm_p_const (pc := 21) (i := .iconst 0) (v := gm_vi 0) (by decide +kernel) (by decide +kernel)) ?_
    exact gm_r_int (pc := 22) (by decide +kernel) (Or.inl (by decide +kernel)) hq
  · simp only [List.mem_cons, List.not_mem_nil, or_false] at hi
    rcases hi with rfl | rfl
    · show (match gm_hit (gm_ow 220) 5 3 false (gm_hh 220) with
      | some (some h) => gm_Wp X LX (d + 1) _ _ 220 h (gm_ent 220 [gm_vr 1, gm_vi x0, gm_vi x1, gm_vr 245]) [gm_vo 4000] n1 K1 R1 M1 Q
      | some none => Q (.inr 3) n1 K1 R1 M1
      | none => False)
      rw [hl_220_3]
      show gm_Wp X LX (d + 1) _ _ 220 13 (gm_ent 220 [gm_vr 1, gm_vi x0, gm_vi x1, gm_vr 245]) [gm_vo 4000] n1 K1 R1 M1 Q
      refine gm_sz (gm_p_stor (pc := 13) (i := .astore 4) (sr := 2) (j := 4) (by decide +kernel) rfl (show 5 ≤ _ from Nat.le_of_ble_eq_true rfl) rfl) ?_
      refine gm_sz (gm_p_const (pc := 15) (i := .iconst 1) (v := gm_vi 1) (by decide +kernel) (by decide +kernel)) ?_
      exact gm_r_int (pc := 16) (by decide +kernel) (Or.inl (by decide +kernel)) hq
    · show (match gm_hit (gm_ow 220) 5 0 false (gm_hh 220) with
      | some (some h) => gm_Wp X LX (d + 1) _ _ 220 h (gm_ent 220 [gm_vr 1, gm_vi x0, gm_vi x1, gm_vr 245]) [gm_vo 4000] n1 K1 R1 M1 Q
      | some none => Q (.inr 0) n1 K1 R1 M1
      | none => False)
      rw [hl_220_0]
      show gm_Wp X LX (d + 1) _ _ 220 17 (gm_ent 220 [gm_vr 1, gm_vi x0, gm_vi x1, gm_vr 245]) [gm_vo 4000] n1 K1 R1 M1 Q
      refine gm_sz (gm_p_stor (pc := 17) (i := .astore 4) (sr := 2) (j := 4) (by decide +kernel) rfl (show 5 ≤ _ from Nat.le_of_ble_eq_true rfl) rfl) ?_
      refine gm_sz (gm_p_const (pc := 19) (i := .iconst 2) (v := gm_vi 2) (by decide +kernel) (by decide +kernel)) ?_
      exact gm_r_int (pc := 20) (by decide +kernel) (Or.inl (by decide +kernel)) hq
theorem hl_222_0 : gm_hit (gm_ow 222) 4 0 false (gm_hh 222) = some (some 12) := by decide +kernel
theorem hl_222 {x0 : Int} (k1 : (1 ≤ 1 ∧ 1 ≤ n) ∧ (K 1).1 = 0 + 4) (h : gm_Wp X LX d bc bs 223 0 (gm_ent 223 [gm_vr 1, gm_vi x0]) [] n K R M (hQ [(0, 1)] Q)) : gm_Wp X LX (d + 1) bc bs 222 0 (gm_ent 222 [gm_vr 1, gm_vi x0, gm_vr 245]) [] n K R M Q := by
  refine gm_sz (gm_p_load (pc := 0) (i := .aload_n 2) (sr := 2) (j := 2) (by decide +kernel) rfl rfl rfl) ?_
  refine gm_sz (gm_p_const (pc := 1) (i := .iconst 0) (v := gm_vi 0) (by decide +kernel) (by decide +kernel)) ?_
  refine gm_sz (gm_p_load (pc := 2) (i := .aload_n 0) (sr := 2) (j := 0) (by decide +kernel) rfl rfl rfl) ?_
  refine gm_sz (gm_p_load (pc := 3) (i := .iload_n 1) (sr := 0) (j := 1) (by decide +kernel) rfl rfl rfl) ?_
  refine gm_c_virtH (k := 1) (ci := 0) (mj := 223) (ix := 117) (pc := 4) (as := [gm_vi x0]) (st := [gm_vi 0, gm_vr 245]) (d' := d) (bc' := bc) (bs' := bs) (by decide +kernel) (by decide +kernel) (by decide +kernel) k1.1 k1.2 (by decide) (by decide +kernel) (show 1 = gm_na 223 by decide +kernel) (fw_c1 (by simp [gm_sort])) (show 1 + 1 ≤ gm_ml 223 by decide +kernel) (Nat.le_of_ble_eq_true rfl) (Nat.le_refl _) (Nat.le_refl _) (Nat.le_refl _) ?_
  refine gm_Wp_mono (fun o n1 K1 R1 M1 hq => ?_) h
  obtain ⟨⟨hn, hK⟩, hq⟩ := hq
  rcases hq with ⟨v, rfl, hq⟩ | ⟨i, hi, rfl, hq⟩
  · show gm_Wp X LX (d + 1) _ _ 222 7 (gm_ent 222 [gm_vr 1, gm_vi x0, gm_vr 245]) [gm_vi v, gm_vi 0, gm_vr 245] n1 K1 R1 M1 Q
    refine gm_sz (gm_p_i2l (pc := 7) (by decide +kernel)) ?_
    refine gm_sz (gm_p_last (pc := 8) (k := 245) (by decide +kernel) ⟨by decide, hn⟩ (by rw [hK]) (by rw [hK]; decide)) ?_
    refine gm_sz (gm_p_goto (pc := 9) (off := 6) (by decide +kernel) (by decide)) ?_
    refine gm_sz (gm_p_const (pc := 15) (i := .iconst 0) (v := gm_vi 0) (by decide +kernel) (by decide +kernel)) ?_
    exact gm_r_int (pc := 16) (by decide +kernel) (Or.inl (by decide +kernel)) hq
  · simp only [List.mem_cons, List.not_mem_nil, or_false] at hi
    rcases hi with rfl
    · show (match gm_hit (gm_ow 222) 4 0 false (gm_hh 222) with
      | some (some h) => gm_Wp X LX (d + 1) _ _ 222 h (gm_ent 222 [gm_vr 1, gm_vi x0, gm_vr 245]) [gm_vo 4000] n1 K1 R1 M1 Q
      | some none => Q (.inr 0) n1 K1 R1 M1
      | none => False)
      rw [hl_222_0]
      show gm_Wp X LX (d + 1) _ _ 222 12 (gm_ent 222 [gm_vr 1, gm_vi x0, gm_vr 245]) [gm_vo 4000] n1 K1 R1 M1 Q
      refine gm_sz (gm_p_stor (pc := 12) (i := .astore_n 3) (sr := 2) (j := 3) (by decide +kernel) rfl (show 4 ≤ _ from Nat.le_of_ble_eq_true rfl) rfl) ?_
      refine gm_sz (gm_p_const (pc := 13) (i := .iconst 1) (v := gm_vi 1) (by decide +kernel) (by decide +kernel)) ?_
      exact gm_r_int (pc := 14) (by decide +kernel) (Or.inl (by decide +kernel)) hq
theorem hl_224_0 : gm_hit (gm_ow 224) 5 0 false (gm_hh 224) = some (some 13) := by decide +kernel
theorem hl_224 {x0 x1 : Int} (k1 : (1 ≤ 1 ∧ 1 ≤ n) ∧ (K 1).1 = 0 + 4) (h : gm_Wp X LX d bc bs 225 0 (gm_ent 225 [gm_vr 1, gm_vi x0, gm_vi x1]) [] n K R M (hQ [(0, 1)] Q)) : gm_Wp X LX (d + 1) bc bs 224 0 (gm_ent 224 [gm_vr 1, gm_vi x0, gm_vi x1, gm_vr 245]) [] n K R M Q := by
  refine gm_sz (gm_p_load (pc := 0) (i := .aload_n 3) (sr := 2) (j := 3) (by decide +kernel) rfl rfl rfl) ?_
  refine gm_sz (gm_p_const (pc := 1) (i := .iconst 0) (v := gm_vi 0) (by decide +kernel) (by decide +kernel)) ?_
  refine gm_sz (gm_p_load (pc := 2) (i := .aload_n 0) (sr := 2) (j := 0) (by decide +kernel) rfl rfl rfl) ?_
  refine gm_sz (gm_p_load (pc := 3) (i := .iload_n 1) (sr := 0) (j := 1) (by decide +kernel) rfl rfl rfl) ?_
  refine gm_sz (gm_p_load (pc := 4) (i := .iload_n 2) (sr := 0) (j := 2) (by decide +kernel) rfl rfl rfl) ?_
  refine gm_c_virtH (k := 1) (ci := 0) (mj := 225) (ix := 120) (pc := 5) (as := [gm_vi x0, gm_vi x1]) (st := [gm_vi 0, gm_vr 245]) (d' := d) (bc' := bc) (bs' := bs) (by decide +kernel) (by decide +kernel) (by decide +kernel) k1.1 k1.2 (by decide) (by decide +kernel) (show 2 = gm_na 225 by decide +kernel) (fun v hv => by simp only [List.mem_cons, List.not_mem_nil, or_false] at hv; rcases hv with rfl | rfl <;> simp [gm_sort]) (show 2 + 1 ≤ gm_ml 225 by decide +kernel) (Nat.le_of_ble_eq_true rfl) (Nat.le_refl _) (Nat.le_refl _) (Nat.le_refl _) ?_
  refine gm_Wp_mono (fun o n1 K1 R1 M1 hq => ?_) h
  obtain ⟨⟨hn, hK⟩, hq⟩ := hq
  rcases hq with ⟨v, rfl, hq⟩ | ⟨i, hi, rfl, hq⟩
  · show gm_Wp X LX (d + 1) _ _ 224 8 (gm_ent 224 [gm_vr 1, gm_vi x0, gm_vi x1, gm_vr 245]) [gm_vi v, gm_vi 0, gm_vr 245] n1 K1 R1 M1 Q
    refine gm_sz (gm_p_i2l (pc := 8) (by decide +kernel)) ?_
    refine gm_sz (gm_p_last (pc := 9) (k := 245) (by decide +kernel) ⟨by decide, hn⟩ (by rw [hK]) (by rw [hK]; decide)) ?_
    refine gm_sz (gm_p_goto (pc := 10) (off := 7) (by decide +kernel) (by decide)) ?_
    refine gm_sz (gm_p_const (pc := 17) (i := .iconst 0) (v := gm_vi 0) (by decide +kernel) (by decide +kernel)) ?_
    exact gm_r_int (pc := 18) (by decide +kernel) (Or.inl (by decide +kernel)) hq
  · simp only [List.mem_cons, List.not_mem_nil, or_false] at hi
    rcases hi with rfl
    · show (match gm_hit (gm_ow 224) 5 0 false (gm_hh 224) with
      | some (some h) => gm_Wp X LX (d + 1) _ _ 224 h (gm_ent 224 [gm_vr 1, gm_vi x0, gm_vi x1, gm_vr 245]) [gm_vo 4000] n1 K1 R1 M1 Q
      | some none => Q (.inr 0) n1 K1 R1 M1
      | none => False)
      rw [hl_224_0]
      show gm_Wp X LX (d + 1) _ _ 224 13 (gm_ent 224 [gm_vr 1, gm_vi x0, gm_vi x1, gm_vr 245]) [gm_vo 4000] n1 K1 R1 M1 Q
      refine gm_sz (gm_p_stor (pc := 13) (i := .astore 4) (sr := 2) (j := 4) (by decide +kernel) rfl (show 5 ≤ _ from Nat.le_of_ble_eq_true rfl) rfl) ?_
      refine gm_sz (gm_p_const (pc := 15) (i := .iconst 1) (v := gm_vi 1) (by decide +kernel) (by decide +kernel)) ?_
      exact gm_r_int (pc := 16) (by decide +kernel) (Or.inl (by decide +kernel)) hq
end HL14
end
/-! 7c15.wd -/
section
/-! THE WORLD BETWEEN THE CALLS and what is told of it: laws, acts of the class, acts of the reference. -/
/-- the law that a State of the class holds -/
def LAWC (s : Nat) (lw : Option (List lln)) (K : gm_K) (M : gm_M) : Prop := (lw = none → s = 0) ∧ ∀ ls, lw = some ls → ¬ s = 0 ∧ LW ls ∧ ∃ NC : Nat, NC ≤ 400 ∧ K (bg_rho s 247) = (0, NC) ∧ LB NC (M (bg_rho s 247)) (M (bg_rho s 249)) (ls.length : Int) (fun k j => M (bg_rho s k) j) ∧ LC ls (M (bg_rho s 247)) (M (bg_rho s 249))
def slotN (x : Int) (i : Nat) : Nat := 44 + 13 * ((x + 11 - (i : Int)) % 12).toNat
def LWL (la : Nat → Nat) (K : gm_K) (M : gm_M) (lw : Option (List lln)) (A : List (Int → Int)) (im : Option ((Int → Int) × Option (List lln))) : Prop := LAWC (la 3) lw K M ∧ (∀ i : Nat, i < A.length → la (slotN (M 42 1) i) = la 3) ∧ ∀ NI lI, im = some (NI, lI) → LAWC (la 29) lI K M
theorem slot_ss : (List.range 12).all (fun p => decide (44 + 13 * p ∈ bg_ss)) = true := by decide
theorem slot_s {p : Nat} (h : p < 12) : 44 + 13 * p ∈ bg_ss := of_decide_eq_true (List.all_eq_true.mp slot_ss p (List.mem_range.mpr h))
theorem slotN_s {x : Int} {i : Nat} : slotN x i ∈ bg_ss := slot_s (by omega)
section WD15
variable {X : Int → Int} {LX : Nat} {O : gm_Or} {g z g1 : Nat} {la : Nat → Nat} {K K' K1 : gm_K} {R R1 : gm_R} {M M' M1 : gm_M} {S : ck_Sum} {L : gm_L} {st : List gm_V} {Q : gm_Q} {N N0 : Int → Int} {lw lw0 : Option (List lln)} {A A0 A' : List (Int → Int)} {im im0 : Option ((Int → Int) × Option (List lln))} {t w t0 w0 : Int} {f f0 : Int → Int}
theorem lawc_e {s : Nat} (h : LAWC s lw K M) (hs : s ≤ g) (eK : ∀ k, 246 ≤ k → k ≤ 245 + 4 * g → K' k = K k) (eM : ∀ k j, 246 ≤ k → k ≤ 245 + 4 * g → M' k j = M k j) : LAWC s lw K' M' := by
  refine ⟨h.1, fun ls hl => ?_⟩
  obtain ⟨h0, hW, NC, h1, h2, h3, h4⟩ := h.2 ls hl
  have r : ∀ k, 247 ≤ k → k ≤ 249 → 246 ≤ bg_rho s k ∧ bg_rho s k ≤ 245 + 4 * g := fun k k1 k2 => by
    unfold bg_rho
    rw [if_neg (by omega)]
    omega
  have q : ∀ k, 247 ≤ k → k ≤ 249 → M' (bg_rho s k) = M (bg_rho s k) := fun k k1 k2 => funext fun j => eM _ j (r k k1 k2).1 (r k k1 k2).2
  have e7 := q 247 (by decide) (by decide)
  have e8 := q 248 (by decide) (by decide)
  have e9 := q 249 (by decide) (by decide)
  refine ⟨h0, hW, NC, h1, by rw [eK _ (r 247 (by decide) (by decide)).1 (r 247 (by decide) (by decide)).2]; exact h2, ?_, by rw [e7, e9]; exact h4⟩
  unfold LB LM at h3 ⊢
  simpa only [e7, e8, e9] using h3
/-- what a call sees of the class's law -/
theorem cc_w (hb : bg g la K R M) (hz : bs_ok la z g1) (hz3 : ¬ z = 100003) (h : LAWC (la 3) lw K M) (hr : LAWR lw (M 227)) : ∃ (NC : Nat) (C Ln : Int → Int), CC (245 + 4 * g1) (bs_K la K) (bs_R z g1) NC C Ln (M 227) lw ∧ LBX NC C Ln lw (bs_M la M) := by
  have e8 : bs_R z g1 3 ((8 : Nat) : Int) = z := (bc_lf (s := 3) (by decide)).trans (if_pos rfl)
  cases lw with
  | none =>
    refine ⟨0, fun _ => 0, fun _ => 0, ⟨fun _ => ?_, fun ls e => nomatch e⟩, fun ls e => nomatch e⟩
    have h0 := h.1 rfl
    rw [e8]
    rcases hz with a | a | a
    · exact a.1
    · exact absurd a.1 hz3
    · exact absurd h0 a.2.2
  | some ls =>
    obtain ⟨h0, hW, NC, h1, h2, h3, h4⟩ := h.2 ls rfl
    have hz2 : z = 246 ∧ g1 = 1 := by
      rcases hz with a | a | a
      · exact absurd a.2.2 h0
      · exact absurd a.1 hz3
      · exact ⟨a.1, a.2.1⟩
    obtain ⟨rfl, rfl⟩ := hz2
    have hl3 := hb.2.2.2 3 (by decide)
    have hgg := hb.2.2.1 (la 3 - 1) (by omega)
    have er : ∀ t, t < 4 → bg_rho (la 3) (246 + t) = 246 + 4 * (la 3 - 1) + t := fun t h => by unfold bg_rho; rw [if_neg (by omega)]; omega
    obtain ⟨⟨k6, -, k8, k9⟩, -⟩ := hgg
    have q6 : bs_K la K 246 = (14, 0) := by unfold bs_K; rw [show 246 = 246 + 0 by rfl, er 0 (by decide)]; exact k6
    have q8 : bs_K la K 248 = (6, 0) := by unfold bs_K; rw [show 248 = 246 + 2 by rfl, er 2 (by decide)]; exact k8
    have q9 : bs_K la K 249 = (0, 48) := by unfold bs_K; rw [show 249 = 246 + 3 by rfl, er 3 (by decide)]; exact k9
    have r0 : bs_R 246 1 246 ((0 : Nat) : Int) = 248 := by unfold bs_R; rw [bg_no (by decide)]; rfl
    have r1 : bs_R 246 1 246 ((1 : Nat) : Int) = 247 := by unfold bs_R; rw [bg_no (by decide)]; rfl
    have r2 : bs_R 246 1 248 ((2 : Nat) : Int) = 249 := by unfold bs_R; rw [bg_no (by decide)]; rfl
    refine ⟨NC, M (bg_rho (la 3) 247), M (bg_rho (la 3) 249), ⟨(fun e => nomatch e), fun ls2 e => ?_⟩, fun ls2 e => ?_⟩
    · cases e
      exact ⟨e8, ⟨⟨⟨⟨by decide, by decide⟩, by rw [q6]⟩, ⟨⟨by decide, by decide⟩, h2⟩, ⟨⟨by decide, by decide⟩, by rw [q8]⟩, ⟨by decide, by decide⟩, q9⟩, ⟨r0, r1, r2⟩, h1⟩, hW, h4, (hr.2 ls rfl).2.2.1⟩
    · cases e
      exact h3
theorem e0_w (hb : bg g la K R M) (hz : bs_ok la z g1) : E0 (245 + 4 * g1) (bs_K la K) (bs_R z g1) := by
  rcases hz with a | a | a
  · obtain ⟨rfl, rfl, h0⟩ := a
    exact e0F (bs_F0 hb)
  · obtain ⟨rfl, rfl⟩ := a
    exact e0F (bs_F0 hb)
  · obtain ⟨rfl, rfl, h0⟩ := a
    exact e0F (pl_o (bs_F1 hb h0))
theorem cst_w (hb : bg g la K R M) : CST (bs_M la M) := cstF (bs_F0 (z := 0) hb)
theorem ck_le {k : Nat} {j : Int} (h : cK k j) : k < 226 := by unfold cK at h; omega
theorem ck_ge {k : Nat} {j : Int} (h : cK k j) : 1 ≤ k := by unfold cK at h; omega
theorem rk_le {k : Nat} {j : Int} (h : rK k j) : 226 ≤ k ∧ k ≤ 235 := by unfold rK at h; omega
theorem clv_w (hb : bg g la K R M) (hV : CLV N lw A im t w f M) : CLV N lw A im t w f (bs_M la M) := clv_e hV (cst_w hb) (fun k j hk => vM (by have := ck_le hk; omega))
theorem rfv_w (hV : RFV N lw A im t w f M) : RFV N lw A im t w f (bs_M la M) := rfv_e hV (fun k j hk => vM (by have := rk_le hk; omega))
/-- what a call on the class leaves -/
noncomputable def DQ (n : Nat) (K : gm_K) (u : Option gm_V) (ov : Option Int) (RR : gm_R → gm_M → Prop) (N : Int → Int) (lw : Option (List lln)) (A : List (Int → Int)) (im : Option ((Int → Int) × Option (List lln))) (t w : Int) (f : Int → Int) : gm_Q := fun o n1 K1 R1 M1 => (n1 = n ∧ K1 = K) ∧ o = .inl u ∧ (∀ v, ov = some v → M1 245 0 = gm_w v) ∧ CLV N lw A im t w f M1 ∧ RR R1 M1
/-- rows of the class: cells below 226, and 245 -/
noncomputable def w_x (O : gm_Or) (z g1 k1 : Nat) (t : Bool) (S : ck_Sum) : Bool := bc_ok O z g1 S && (bc_args S k1 t && (decide (S.1.1 + 1 ≤ 280 ∧ S.1.2.1 ≤ 6 ∧ S.1.2.2 ≤ 600) && S.2.2.2.2.1.1.all fun w => decide (w.1 < 226 ∨ w.1 = 245)))
/-- rows of the reference: cells 226 to 244 -/
noncomputable def w_m (S : ck_Sum) : Bool := bc_ok p2_O 100003 0 S && (bc_args S 226 false && (decide (S.1.1 + 1 ≤ 280 ∧ S.1.2.1 ≤ 6 ∧ S.1.2.2 ≤ 600) && S.2.2.2.2.1.1.all fun w => decide (w.1 = 0 ∨ (226 ≤ w.1 ∧ w.1 ≤ 244))))
theorem bg_oldM {k : Nat} {j : Int} (h1 : 246 ≤ k) (h2 : k ≤ 245 + 4 * g) : bg_M g M M' k j = M k j := by unfold bg_M; rw [if_neg (by omega), if_pos h2]
/-- behind a call on the class: what is told is told of the world -/
noncomputable def wx_K (X : Int → Int) (LX bc bs pc : Nat) (L : gm_L) (st : List gm_V) (Q : gm_Q) (g z g1 : Nat) (la : Nat → Nat) (K : gm_K) (M : gm_M) (u : Option gm_V) (ov : Option Int) (RR : gm_R → gm_M → Prop) (N : Int → Int) (lw : Option (List lln)) (A : List (Int → Int)) (im : Option ((Int → Int) × Option (List lln))) (t w : Int) (f : Int → Int) (N0 : Int → Int) (lw0 : Option (List lln)) (A0 : List (Int → Int)) (im0 : Option ((Int → Int) × Option (List lln))) (t0 w0 : Int) (f0 : Int → Int) : Prop := ∀ (R1 : gm_R) (M1 : gm_M) (K2 : gm_K) (R2 : gm_R) (M2 : gm_M), RR R1 M1 → bg g (bg_la la g 0 R1) K2 R2 M2 → (∀ k, 246 ≤ k → k ≤ 245 + 4 * g → K2 k = K k) → (∀ k j, 246 ≤ k → k ≤ 245 + 4 * g → M2 k j = M k j) → M2 42 1 = M1 42 1 → (∀ v, ov = some v → Int64.ofInt (M2 245 0) = Int64.ofInt (gm_w v)) → CLV N lw A im t w f M2 → RFV N0 lw0 A0 im0 t0 w0 f0 M2 → gm_Wp X LX 280 (bc - 6) (bs - 600) 369 pc L (u.toList ++ st) (245 + 4 * g) K2 R2 M2 Q
theorem wx_s {bc bs pc k1 : Nat} {tt : Bool} {u : Option gm_V} {ov : Option Int} {RR : gm_R → gm_M → Prop} (hb : bg g la K R M) (hz : bs_ok la z g1) (hg : g < 10000) (hO : ∀ n K R M, gm_Fx O n K R M → gm_Fx p2_O n K R M) (hck : w_x O z g1 k1 tt S = true) (hRA : RA N lw A im t w f) (hRf : RFV N0 lw0 A0 im0 t0 w0 f0 M) (hu : u = none ∨ ∃ x, u = some (gm_vi x)) (hRR : ∀ R1 M1, RR R1 M1 → rvR z g1 R1) (k : wx_K X LX bc bs pc L st Q g z g1 la K M u ov RR N lw A im t w f N0 lw0 A0 im0 t0 w0 f0) : bc_KM X LX 280 (bc - 6) (bs - 600) 369 pc L st Q O z g1 g la K R M S (DQ (245 + 4 * g1) (bs_K la K) u ov RR N lw A im t w f) := by
  simp only [w_x, Bool.and_eq_true, decide_eq_true_eq] at hck
  obtain ⟨-, -, -, hW⟩ := hck
  have hg1 : g1 ≤ 1 := by rcases hz with h | h | h <;> omega
  intro o n1 K1 R1 M1 σ o2 n2 K2 R2 M2 q1 q2 ho hdt
  obtain ⟨⟨rfl, rfl⟩, rfl, hv, hV, hrr⟩ := q1
  obtain ⟨hF2, hfr, -⟩ := q2
  have hF2 := hO _ _ _ _ hF2
  have hk12 : ∀ k, 1 ≤ k → k ≤ 245 + 4 * g1 → bs_K la K k = K2 k := fun k _ hk => (hfr.2.1 k hk).symm
  refine ⟨hk12, ?_⟩
  have hW2 : S.2.2.2.2.1.1.all (fun w => decide (w.1 ≤ 245)) = true := List.all_eq_true.mpr fun w hw => by
    have := of_decide_eq_true (List.all_eq_true.mp hW w hw)
    exact decide_eq_true (by omega)
  have hrt := rt_of (K1 := bs_K la K) (M1 := bs_M la M) (Ka := bs_K la K) (Ma := M1) hg1 (hRR R1 M1 hrr) hF2 hfr hW2 (fun _ _ => rfl)
  refine bg_oweX (c := 0) hb hz hg hrt hu (fun hb2 => ?_)
  have hV2 := clv_dt hdt (by omega) hk12 hF2 hRA hV
  have e : ∀ k j, k ≤ 245 → bg_M g M (mxM (245 + 4 * g1) M2 M1) k j = M2 k j := fun k j hk => (bg_Ms hk j).trans (mxM_o (by omega))
  have hx : 0 ≤ M1 42 1 ∧ M1 42 1 < 12 := his_nx hV.1.2
  refine k R1 M1 _ _ _ hrr hb2 (fun k k1 k2 => bg_Ks k2) (fun k j k1 k2 => bg_oldM k1 k2) ?_ (fun v hv2 => ?_) ?_ ?_
  · rw [e 42 1 (by decide)]
    have e42 : M2 42 1 = gm_w (M1 42 1) := dw_f hdt (by omega) hk12 hF2 dt_c2.1
    rw [e42]
    exact dw_i ⟨by omega, by omega⟩
  · rw [e 245 0 (by decide), ← hv v hv2]
    have k245 := hF2.1 245 (2, 1) (by decide +kernel)
    have ee := hk12 245 (by decide) (by omega)
    exact ((hdt 245 (by decide) (by omega) ee).2.1 (by rw [ee, k245.2.2]) 0 (by rw [ee, k245.2.2]; decide)).symm
  · exact clv_e hV2 (cstF hb2.2.1) (fun k j hk => e k j (by have := ck_le hk; omega))
  · refine rfv_e hRf (fun k j hk => ?_)
    have hk := rk_le hk
    rw [e k j (by omega), hfr.2.2.1 k j (by omega) (fun w hw hh => by have := of_decide_eq_true (List.all_eq_true.mp hW w hw); omega)]
    exact vM (by omega)
/-- what a call on the reference leaves -/
noncomputable def RDQ (n : Nat) (K : gm_K) (R : gm_R) (P : Option gm_V → Prop) (oc : Option Int) (N : Int → Int) (lw : Option (List lln)) (A : List (Int → Int)) (im : Option ((Int → Int) × Option (List lln))) (t w : Int) (f : Int → Int) : gm_Q := fun o n1 K1 R1 M1 => (n1 = n ∧ K1 = K ∧ R1 = R) ∧ (∃ u, o = .inl u ∧ P u) ∧ (∀ c, oc = some c → gm_ir c ∧ M1 226 0 = c) ∧ RFV N lw A im t w f M1
noncomputable def wm_K (X : Int → Int) (LX bc bs pc : Nat) (L : gm_L) (st : List gm_V) (Q : gm_Q) (g : Nat) (la : Nat → Nat) (K : gm_K) (M : gm_M) (P : Option gm_V → Prop) (oc : Option Int) (N : Int → Int) (lw : Option (List lln)) (A : List (Int → Int)) (im : Option ((Int → Int) × Option (List lln))) (t w : Int) (f : Int → Int) : Prop := ∀ (u : Option gm_V) (la2 : Nat → Nat) (K2 : gm_K) (R2 : gm_R) (M2 : gm_M), P u → (∀ s ∈ bg_ss, la2 s = la s) → bg g la2 K2 R2 M2 → (∀ k, 246 ≤ k → k ≤ 245 + 4 * g → K2 k = K k) → (∀ k j, 246 ≤ k → k ≤ 245 + 4 * g → M2 k j = M k j) → M2 42 1 = M 42 1 → M2 245 0 = M 245 0 → (∀ c, oc = some c → M2 226 0 = c) → CLV N lw A im t w f M2 → RFV N lw A im t w f M2 → gm_Wp X LX 280 (bc - 6) (bs - 600) 369 pc L (u.toList ++ st) (245 + 4 * g) K2 R2 M2 Q
theorem wm_c1 : tyF 226 11 0 = true := by decide +kernel
theorem wm_s {bc bs pc : Nat} {P : Option gm_V → Prop} {oc : Option Int} (hb : bg g la K R M) (hg : g < 10000) (hck : w_m S = true) (hRA : RA N lw A im t w f) (hC : CLV N lw A im t w f M) (hP : ∀ u, P u → u = none ∨ ∃ x, u = some (gm_vi x)) (k : wm_K X LX bc bs pc L st Q g la K M P oc N lw A im t w f) : bc_KM X LX 280 (bc - 6) (bs - 600) 369 pc L st Q p2_O 100003 0 g la K R M S (RDQ 245 (bs_K la K) (bs_R 100003 0) P oc N lw A im t w f) := by
  have hz : bs_ok la 100003 0 := Or.inr (Or.inl ⟨rfl, rfl⟩)
  simp only [w_m, Bool.and_eq_true, decide_eq_true_eq] at hck
  obtain ⟨-, -, -, hW⟩ := hck
  intro o n1 K1 R1 M1 σ o2 n2 K2 R2 M2 q1 q2 ho hdt
  obtain ⟨⟨rfl, rfl, rfl⟩, ⟨u, rfl, hu⟩, hc, hV⟩ := q1
  obtain ⟨hF2, hfr, -⟩ := q2
  have hk12 : ∀ k, 1 ≤ k → k ≤ 245 + 4 * 0 → bs_K la K k = K2 k := fun k _ hk => (hfr.2.1 k hk).symm
  refine ⟨hk12, ?_⟩
  have hW2 : S.2.2.2.2.1.1.all (fun w => decide (w.1 ≤ 245)) = true := List.all_eq_true.mpr fun w hw => by
    have := of_decide_eq_true (List.all_eq_true.mp hW w hw)
    exact decide_eq_true (by omega)
  have hrt := rt_of (K1 := bs_K la K) (M1 := bs_M la M) (Ka := bs_K la K) (Ma := M1) (g1 := 0) (by decide) (rvR_0 hz) hF2 hfr hW2 (fun _ _ => rfl)
  refine bg_oweX (c := 0) hb hz hg hrt (hP u hu) (fun hb2 => ?_)
  have hV2 := rfv_dt hdt (by omega) hk12 hF2 hRA hV
  have e : ∀ k j, k ≤ 245 → bg_M g M (mxM (245 + 4 * 0) M2 M1) k j = M2 k j := fun k j hk => (bg_Ms hk j).trans (mxM_o (by omega))
  have e2 : ∀ k j, (1 ≤ k ∧ k < 226) ∨ k = 245 → bg_M g M (mxM (245 + 4 * 0) M2 M1) k j = M k j := fun k j hk => by
    rw [e k j (by omega), hfr.2.2.1 k j (by omega) (fun w hw hh => by have := of_decide_eq_true (List.all_eq_true.mp hW w hw); omega)]
    exact vM (by omega)
  refine k u _ _ _ _ hu (fun s hs => bg_dcs hz hs) hb2 (fun k k1 k2 => bg_Ks k2) (fun k j k1 k2 => bg_oldM k1 k2) (e2 42 1 (by decide)) (e2 245 0 (by decide)) (fun c hc2 => ?_) ?_ ?_
  · obtain ⟨c1, c2⟩ := hc c hc2
    rw [e 226 0 (by decide)]
    have := dw_f hdt (by decide) hk12 hF2 wm_c1
    rw [show ((0 : Nat) : Int) = 0 by rfl] at this
    rw [this, c2]
    exact dw_i c1
  · exact clv_e hC (cstF hb2.2.1) (fun k j hk => e2 k j (Or.inl ⟨ck_ge hk, ck_le hk⟩))
  · exact rfv_e hV2 (fun k j hk => e k j (by have := rk_le hk; omega))
end WD15
end
/-! 7c16.mw -/
section
/-! LAWS BY EVERY STEP; a call on the class, a call on the reference, as a step of what is told. -/
/-- class and reference told the same -/
noncomputable def REL (la : Nat → Nat) (K : gm_K) (M : gm_M) (N : Int → Int) (lw : Option (List lln)) (A : List (Int → Int)) (im : Option ((Int → Int) × Option (List lln))) (t w : Int) (f : Int → Int) : Prop := RA N lw A im t w f ∧ LWL la K M lw A im ∧ CLV N lw A im t w f M ∧ RFV N lw A im t w f M
/-- the class has done it, the reference hasn't -/
noncomputable def MID (la : Nat → Nat) (K : gm_K) (M : gm_M) (N : Int → Int) (lw : Option (List lln)) (A : List (Int → Int)) (im : Option ((Int → Int) × Option (List lln))) (t w : Int) (f : Int → Int) (N0 : Int → Int) (lw0 : Option (List lln)) (A0 : List (Int → Int)) (im0 : Option ((Int → Int) × Option (List lln))) (t0 w0 : Int) (f0 : Int → Int) : Prop := RA N lw A im t w f ∧ RA N0 lw0 A0 im0 t0 w0 f0 ∧ LWL la K M lw A im ∧ CLV N lw A im t w f M ∧ RFV N0 lw0 A0 im0 t0 w0 f0 M
section MW16
variable {X : Int → Int} {LX : Nat} {g z g1 : Nat} {la la2 : Nat → Nat} {K K2 : gm_K} {R R1 R2 : gm_R} {M M1 M2 : gm_M} {L : gm_L} {st : List gm_V} {Q : gm_Q} {N N0 : Int → Int} {lw lw0 : Option (List lln)} {A A0 A' : List (Int → Int)} {im im0 : Option ((Int → Int) × Option (List lln))} {t w t0 w0 : Int} {f f0 : Int → Int}
theorem lwl_c (h : LWL la K M lw A im) (hl : ∀ s ∈ bg_ss, la s ≤ g) (e3 : la2 3 = la 3) (eS : ∀ i : Nat, i < A'.length → la2 (slotN (M2 42 1) i) = la 3) (e29 : la2 29 = la 29) (eK : ∀ k, 246 ≤ k → k ≤ 245 + 4 * g → K2 k = K k) (eM : ∀ k j, 246 ≤ k → k ≤ 245 + 4 * g → M2 k j = M k j) : LWL la2 K2 M2 lw A' im := by
  obtain ⟨h1, h2, h3⟩ := h
  refine ⟨by rw [e3]; exact lawc_e h1 (hl 3 (by decide)) eK eM, fun i hi => (eS i hi).trans e3.symm, fun NI lI e => ?_⟩
  rw [e29]
  exact lawc_e (h3 NI lI e) (hl 29 (by decide)) eK eM
theorem lwl_e (h : LWL la K M lw A im) (hl : ∀ s ∈ bg_ss, la s ≤ g) (e : ∀ s ∈ bg_ss, la2 s = la s) (e42 : M2 42 1 = M 42 1) (eK : ∀ k, 246 ≤ k → k ≤ 245 + 4 * g → K2 k = K k) (eM : ∀ k j, 246 ≤ k → k ≤ 245 + 4 * g → M2 k j = M k j) : LWL la2 K2 M2 lw A im :=
  lwl_c h hl (e 3 (by decide)) (fun i hi => by rw [e42, e _ slotN_s]; exact h.2.1 i hi) (e 29 (by decide)) eK eM
theorem la_u {s c c' : Nat} (hz : bs_ok la z g1) (hs : s ∈ bg_ss) (hc' : c' ∈ bg_ss) : bg_la la g 0 (gm_uR (bs_R z g1) c 8 (bs_R z g1 c' 8)) s = if s = c then la c' else la s := by
  show bg_dc la g 0 (gm_uR (bs_R z g1) c 8 (bs_R z g1 c' 8) s 8) = _
  unfold gm_uR
  by_cases e : s = c
  · rw [if_pos ⟨e, rfl⟩, if_pos e]
    exact bg_dcs hz hc'
  · rw [if_neg (fun h => e h.1), if_neg e]
    exact bg_dcs hz hs
theorem lwl_step (h : LWL la K M lw A im) (hl : ∀ s ∈ bg_ss, la s ≤ g) (hz : bs_ok la z g1) (hs : STEP (bs_R z g1) R1 (bs_M la M) M1 A A') (e42 : M2 42 1 = M1 42 1) (eK : ∀ k, 246 ≤ k → k ≤ 245 + 4 * g → K2 k = K k) (eM : ∀ k j, 246 ≤ k → k ≤ 245 + 4 * g → M2 k j = M k j) : LWL (bg_la la g 0 R1) K2 M2 lw A' im := by
  have v42 : bs_M la M 42 1 = M 42 1 := vM (by decide)
  have n3 : ∀ p : Nat, ¬ 3 = 44 + 13 * p := fun p => by omega
  have n29 : ∀ p : Nat, ¬ 29 = 44 + 13 * p := fun p => by omega
  rcases hs with ⟨rfl, h1, rfl⟩ | ⟨p, hp, ⟨h1, h2⟩, rfl, N0, rfl⟩ | ⟨p, hp, ⟨h1, h2⟩, rfl, N0, rfl⟩
  · exact lwl_e h hl (fun s hs => bg_dcs hz hs) (by rw [e42, h1, v42]) eK eM
  · rw [v42] at h1
    refine lwl_c h hl ((la_u hz (by decide) (by decide)).trans (if_neg (n3 p))) (fun i hi => ?_) ((la_u hz (by decide) (by decide)).trans (if_neg (n29 p))) eK eM
    rw [la_u hz slotN_s (by decide)]
    have hi2 : i < 12 ∧ i < A.length + 1 := by
      rw [List.length_take, List.length_cons] at hi
      omega
    rw [e42, h2]
    cases i with
    | zero =>
      rw [if_pos (by unfold slotN; omega)]
    | succ i =>
      rw [if_neg (by unfold slotN; omega), show slotN (((p : Int) + 1) % 12) (i + 1) = slotN (M 42 1) i by rw [h1]; unfold slotN; omega]
      exact h.2.1 i (by omega)
  · rw [v42] at h2
    have e0 : la (44 + 13 * p) = la 3 := by
      have := h.2.1 0 (by rw [List.length_cons]; omega)
      rw [h2, show slotN (((p : Int) + 1) % 12) 0 = 44 + 13 * p by unfold slotN; omega] at this
      exact this
    have e9 : ∀ s ∈ bg_ss, bg_la la g 0 (gm_uR (bs_R z g1) 3 8 (bs_R z g1 (44 + 13 * p) 8)) s = la s := fun s hs => by
      rw [la_u hz hs (slot_s hp)]
      by_cases e : s = 3
      · rw [if_pos e, e, e0]
      · rw [if_neg e]
    refine lwl_c h hl (e9 3 (by decide)) (fun i hi => ?_) (e9 29 (by decide)) eK eM
    rw [e9 _ slotN_s, e42, h1, show slotN (p : Int) i = slotN (M 42 1) (i + 1) by rw [h2]; unfold slotN; omega]
    exact h.2.1 (i + 1) (by rw [List.length_cons]; omega)
theorem lwl_v (h : LWL la K M lw A im) (hl : ∀ s ∈ bg_ss, la s ≤ g) (hz : bs_ok la z g1) (hr : R1 = gm_uR (bs_R z g1) 16 8 (bs_R z g1 3 8) ∨ R1 = gm_uR (gm_uR (bs_R z g1) 16 8 (bs_R z g1 3 8)) 3 8 ((gm_uR (bs_R z g1) 16 8 (bs_R z g1 3 8)) 16 8)) (hA : A' = A ∨ A' = []) (e42 : M2 42 1 = M 42 1) (eK : ∀ k, 246 ≤ k → k ≤ 245 + 4 * g → K2 k = K k) (eM : ∀ k j, 246 ≤ k → k ≤ 245 + 4 * g → M2 k j = M k j) : LWL (bg_la la g 0 R1) K2 M2 lw A' im := by
  have e9 : ∀ s ∈ bg_ss, ¬ s = 16 → bg_la la g 0 R1 s = la s := fun s hs h16 => by
    rcases hr with rfl | rfl
    · rw [la_u hz hs (by decide), if_neg h16]
    · show bg_dc la g 0 (gm_uR (gm_uR (bs_R z g1) 16 8 (bs_R z g1 3 8)) 3 8 ((gm_uR (bs_R z g1) 16 8 (bs_R z g1 3 8)) 16 8) s 8) = _
      by_cases e3 : s = 3
      · subst e3
        rw [show gm_uR (gm_uR (bs_R z g1) 16 8 (bs_R z g1 3 8)) 3 8 ((gm_uR (bs_R z g1) 16 8 (bs_R z g1 3 8)) 16 8) 3 8 = bs_R z g1 3 8 by unfold gm_uR; rw [if_pos ⟨rfl, rfl⟩, if_pos ⟨rfl, rfl⟩]]
        exact bg_dcs hz hs
      · rw [show gm_uR (gm_uR (bs_R z g1) 16 8 (bs_R z g1 3 8)) 3 8 ((gm_uR (bs_R z g1) 16 8 (bs_R z g1 3 8)) 16 8) s 8 = bs_R z g1 s 8 by unfold gm_uR; rw [if_neg (fun h => e3 h.1), if_neg (fun h => h16 h.1)]]
        exact bg_dcs hz hs
  refine lwl_c h hl (e9 3 (by decide) (by decide)) (fun i hi => ?_) (e9 29 (by decide) (by decide)) eK eM
  rcases hA with rfl | rfl
  · rw [e9 _ slotN_s (by unfold slotN; omega), e42]
    exact h.2.1 i hi
  · exact absurd hi (Nat.not_lt_zero _)
theorem lwl_im (h : LWL la K M lw A im) (hl : ∀ s ∈ bg_ss, la s ≤ g) (hz : bs_ok la z g1) (e42 : M2 42 1 = M 42 1) (eK : ∀ k, 246 ≤ k → k ≤ 245 + 4 * g → K2 k = K k) (eM : ∀ k j, 246 ≤ k → k ≤ 245 + 4 * g → M2 k j = M k j) : LWL (bg_la la g 0 (gm_uR (bs_R z g1) 29 8 (bs_R z g1 3 8))) K2 M2 lw A (some (N, lw)) := by
  obtain ⟨h1, h2, h3⟩ := h
  have e3 : bg_la la g 0 (gm_uR (bs_R z g1) 29 8 (bs_R z g1 3 8)) 3 = la 3 := (la_u hz (by decide) (by decide)).trans (if_neg (by decide))
  have e29 : bg_la la g 0 (gm_uR (bs_R z g1) 29 8 (bs_R z g1 3 8)) 29 = la 3 := (la_u hz (by decide) (by decide)).trans (if_pos rfl)
  refine ⟨by rw [e3]; exact lawc_e h1 (hl 3 (by decide)) eK eM, fun i hi => ?_, fun NI lI e => ?_⟩
  · rw [e3, la_u hz slotN_s (by decide), if_neg (by unfold slotN; omega), e42]
    exact h2 i hi
  · cases e
    rw [e29]
    exact lawc_e h1 (hl 3 (by decide)) eK eM
theorem lwl_bk {NI : Int → Int} {lI : Option (List lln)} (h : LWL la K M lw A (some (NI, lI))) (hl : ∀ s ∈ bg_ss, la s ≤ g) (hz : bs_ok la z g1) (eK : ∀ k, 246 ≤ k → k ≤ 245 + 4 * g → K2 k = K k) (eM : ∀ k j, 246 ≤ k → k ≤ 245 + 4 * g → M2 k j = M k j) : LWL (bg_la la g 0 (gm_uR (bs_R z g1) 3 8 (bs_R z g1 29 8))) K2 M2 lI [] (some (NI, lI)) := by
  obtain ⟨h1, h2, h3⟩ := h
  have e3 : bg_la la g 0 (gm_uR (bs_R z g1) 3 8 (bs_R z g1 29 8)) 3 = la 29 := (la_u hz (by decide) (by decide)).trans (if_pos rfl)
  have e29 : bg_la la g 0 (gm_uR (bs_R z g1) 3 8 (bs_R z g1 29 8)) 29 = la 29 := (la_u hz (by decide) (by decide)).trans (if_neg (by decide))
  have h4 := lawc_e (h3 NI lI rfl) (hl 29 (by decide)) eK eM
  refine ⟨by rw [e3]; exact h4, fun i hi => absurd hi (Nat.not_lt_zero _), fun NI2 lI2 e => ?_⟩
  cases e
  rw [e29]
  exact h4
/-- behind a call on the class -/
def mw_K (X : Int → Int) (LX bc bs pc : Nat) (L : gm_L) (st : List gm_V) (Q : gm_Q) (g : Nat) (u : Option gm_V) (ov : Option Int) (P : (Nat → Nat) → gm_K → gm_M → Prop) : Prop := ∀ (la2 : Nat → Nat) (K2 : gm_K) (R2 : gm_R) (M2 : gm_M), bg g la2 K2 R2 M2 → P la2 K2 M2 → (∀ v, ov = some v → Int64.ofInt (M2 245 0) = Int64.ofInt (gm_w v)) → gm_Wp X LX 280 (bc - 6) (bs - 600) 369 pc L (u.toList ++ st) (245 + 4 * g) K2 R2 M2 Q
theorem mw_in {l : List ck_Sum} {ds : List (Int × Int)} {xs : List Int} (hv : bc_cov 60 ds (l.map bc_box) = true) (hx : bc_in ds xs) : ∃ S ∈ l, bc_in (bc_box S) xs := by
  obtain ⟨r, hr, h⟩ := bc_cov_s 60 ds _ xs hv hx
  obtain ⟨S, hS, rfl⟩ := List.mem_map.mp hr
  exact ⟨S, hS, h⟩
theorem mw_k1 (hb : bg g la K R M) : (K 1).1 = 0 + 4 ∧ (K 226).1 = 11 + 4 := ⟨(e0k (e0F hb.2.1) (k := 1) (c := 0) (by decide +kernel)).2, (e0k (e0F hb.2.1) (k := 226) (c := 11) (by decide +kernel)).2⟩
section MWX
variable {bc bs pc ix mj : Nat} {l0 l1 l : List ck_Sum} {ds : List (Int × Int)} {xs : List Int} {u : Option gm_V} {ov oc : Option Int} {RR : Nat → Nat → gm_R → gm_M → Prop} {P : Option gm_V → Prop}
theorem wx_go (hR : REL la K M N0 lw0 A0 im0 t0 w0 f0) (hRA : RA N lw A im t w f) (hL : ∀ R1 M1 K2 M2, RR z g1 R1 M1 → (∀ k, 246 ≤ k → k ≤ 245 + 4 * g → K2 k = K k) → (∀ k j, 246 ≤ k → k ≤ 245 + 4 * g → M2 k j = M k j) → M2 42 1 = M1 42 1 → LWL (bg_la la g 0 R1) K2 M2 lw A im) (k : mw_K X LX bc bs pc L st Q g u ov (fun la2 K2 M2 => MID la2 K2 M2 N lw A im t w f N0 lw0 A0 im0 t0 w0 f0)) : wx_K X LX bc bs pc L st Q g z g1 la K M u ov (RR z g1) N lw A im t w f N0 lw0 A0 im0 t0 w0 f0 :=
  fun R1 M1 K2 R2 M2 hrr hb2 eK eM e42 hv hC hF => k _ K2 R2 M2 hb2 ⟨hRA, hR.1, hL R1 M1 K2 M2 hrr eK eM e42, hC, hF⟩ hv
/-- a call on the class by one of the law's own methods -/
theorem mw_x (hb : bg g la K R M) (hg : g < 10000) (hR : REL la K M N0 lw0 A0 im0 t0 w0 f0) (hRA : RA N lw A im t w f) (h : gm_at 369 pc = some (.invokestatic ix)) (hc : gm_cal (gm_ow 369) ix = some (5, mj)) (hmx : gm_ow mj ≠ gm_mxi) (hhj : ¬ gm_hh mj = []) (hna : xs.length + 2 = gm_na mj) (hlen : xs.length + 2 ≤ gm_ml mj) (hst : (st.map gm_cat).sum ≤ 8) (s0 : ∀ S ∈ l0, ck_Ok p2_O X LX mj S) (s1 : ∀ S ∈ l1, ck_Ok p2_OL X LX mj S) (c0 : l0.all (w_x p2_O 0 0 1 true) = true) (c1 : l1.all (w_x p2_OL 246 1 1 true) = true) (v0 : bc_cov 60 ds (l0.map bc_box) = true) (v1 : bc_cov 60 ds (l1.map bc_box) = true) (hx : bc_in ds xs) (hi : ∀ x ∈ xs, gm_ir x) (hbc : 6 ≤ bc) (hbs : 600 ≤ bs) (hu : u = none ∨ ∃ x, u = some (gm_vi x))
    (hf : ∀ z g1, bs_ok la z g1 → ¬ z = 100003 → gm_Wp X LX 279 6 600 mj 0 (gm_ent mj (gm_vr 1 :: bc_as xs true)) [] (245 + 4 * g1) (bs_K la K) (bs_R z g1) (bs_M la M) (DQ (245 + 4 * g1) (bs_K la K) u ov (RR z g1) N lw A im t w f))
    (hRR : ∀ z g1 R1 M1, bs_ok la z g1 → RR z g1 R1 M1 → rvR z g1 R1) (hL : ∀ z g1 R1 M1 K2 M2, bs_ok la z g1 → RR z g1 R1 M1 → (∀ k, 246 ≤ k → k ≤ 245 + 4 * g → K2 k = K k) → (∀ k j, 246 ≤ k → k ≤ 245 + 4 * g → M2 k j = M k j) → M2 42 1 = M1 42 1 → LWL (bg_la la g 0 R1) K2 M2 lw A im)
    (k : mw_K X LX bc bs (pc + 3) L st Q g u ov (fun la2 K2 M2 => MID la2 K2 M2 N lw A im t w f N0 lw0 A0 im0 t0 w0 f0)) : gm_Wp X LX 280 bc bs 369 pc L (gm_vr 245 :: ((xs.map gm_vi).reverse ++ gm_vr 1 :: st)) (245 + 4 * g) K R M Q := by
  by_cases h3 : la 3 = 0
  · have hz : bs_ok la 0 0 := Or.inl ⟨rfl, rfl, h3⟩
    obtain ⟨S, hS, hin⟩ := mw_in v0 hx
    have hck := List.all_eq_true.mp c0 S hS
    have hk2 := wx_s hb hz hg (fun _ _ _ _ h => h) hck hRA hR.2.2.2 hu (fun R1 M1 h => hRR 0 0 R1 M1 hz h) (wx_go hR hRA (fun R1 M1 K2 M2 h a b c => hL 0 0 R1 M1 K2 M2 hz h a b c) k)
    simp only [w_x, bc_ok, Bool.and_eq_true, decide_eq_true_eq] at hck
    exact bc_statM (O := p2_O) (z := 0) (g1 := 0) (d' := 279) (bc' := 6) (bs' := 600) hb hz p2_nmu (bs_F0 hb) h hc hmx hhj hna hlen hst (s0 S hS) hck.1.1 hck.1.2.1 (by omega) (by omega) (by omega) (by decide) hbc hbs (fun σ => bc_gas2 hck.2.1 hin hi) (hf 0 0 hz (by decide)) hk2
  · have hz : bs_ok la 246 1 := Or.inr (Or.inr ⟨rfl, rfl, h3⟩)
    obtain ⟨S, hS, hin⟩ := mw_in v1 hx
    have hck := List.all_eq_true.mp c1 S hS
    have hk2 := wx_s hb hz hg (fun _ _ _ _ h => pl_o h) hck hRA hR.2.2.2 hu (fun R1 M1 h => hRR 246 1 R1 M1 hz h) (wx_go hR hRA (fun R1 M1 K2 M2 h a b c => hL 246 1 R1 M1 K2 M2 hz h a b c) k)
    simp only [w_x, bc_ok, Bool.and_eq_true, decide_eq_true_eq] at hck
    exact bc_statM (O := p2_OL) (z := 246) (g1 := 1) (d' := 279) (bc' := 6) (bs' := 600) hb hz pl_nmu (bs_F1 hb h3) h hc hmx hhj hna hlen hst (s1 S hS) hck.1.1 hck.1.2.1 (by omega) (by omega) (by omega) (by decide) hbc hbs (fun σ => bc_gas2 hck.2.1 hin hi) (hf 246 1 hz (by decide)) hk2
theorem mw_as (xs : List Int) : bc_as xs false = xs.map gm_vi := by simp [bc_as]
/-- a call on the class itself -/
theorem mw_d (hb : bg g la K R M) (hg : g < 10000) (hR : REL la K M N0 lw0 A0 im0 t0 w0 f0) (hRA : RA N lw A im t w f) (h : gm_at 369 pc = some (.invokevirtual ix)) (hc : gm_cal (gm_ow 369) ix = some (0, mj)) (hmx : gm_ow mj ≠ gm_mxi) (hcn : gm_cn 0 = (gm_mn mj).cls) (hna : xs.length = gm_na mj) (hlen : xs.length + 1 ≤ gm_ml mj) (hst : (st.map gm_cat).sum ≤ 8) (s0 : ∀ S ∈ l0, ck_Ok p2_O X LX mj S) (s1 : ∀ S ∈ l1, ck_Ok p2_OL X LX mj S) (c0 : l0.all (w_x p2_O 0 0 1 false) = true) (c1 : l1.all (w_x p2_OL 246 1 1 false) = true) (v0 : bc_cov 60 ds (l0.map bc_box) = true) (v1 : bc_cov 60 ds (l1.map bc_box) = true) (hx : bc_in ds xs) (hi : ∀ x ∈ xs, gm_ir x) (hbc : 6 ≤ bc) (hbs : 600 ≤ bs) (hu : u = none ∨ ∃ x, u = some (gm_vi x))
    (hf : ∀ z g1, bs_ok la z g1 → ¬ z = 100003 → gm_Wp X LX 279 6 600 mj 0 (gm_ent mj (gm_vr 1 :: xs.map gm_vi)) [] (245 + 4 * g1) (bs_K la K) (bs_R z g1) (bs_M la M) (DQ (245 + 4 * g1) (bs_K la K) u ov (RR z g1) N lw A im t w f))
    (hRR : ∀ z g1 R1 M1, bs_ok la z g1 → RR z g1 R1 M1 → rvR z g1 R1) (hL : ∀ z g1 R1 M1 K2 M2, bs_ok la z g1 → RR z g1 R1 M1 → (∀ k, 246 ≤ k → k ≤ 245 + 4 * g → K2 k = K k) → (∀ k j, 246 ≤ k → k ≤ 245 + 4 * g → M2 k j = M k j) → M2 42 1 = M1 42 1 → LWL (bg_la la g 0 R1) K2 M2 lw A im)
    (k : mw_K X LX bc bs (pc + 3) L st Q g u ov (fun la2 K2 M2 => MID la2 K2 M2 N lw A im t w f N0 lw0 A0 im0 t0 w0 f0)) : gm_Wp X LX 280 bc bs 369 pc L ((xs.map gm_vi).reverse ++ gm_vr 1 :: st) (245 + 4 * g) K R M Q := by
  have ea : ∀ {S : ck_Sum}, bc_args S 1 false = true → bc_in (bc_box S) xs → ∀ σ, ck_gas σ S.2.2.1 (gm_vr 1 :: xs.map gm_vi) := fun ha hin σ => by
    have := bc_gas2 (σ := σ) ha hin hi
    rwa [mw_as] at this
  by_cases h3 : la 3 = 0
  · have hz : bs_ok la 0 0 := Or.inl ⟨rfl, rfl, h3⟩
    obtain ⟨S, hS, hin⟩ := mw_in v0 hx
    have hck := List.all_eq_true.mp c0 S hS
    have hk2 := wx_s hb hz hg (fun _ _ _ _ h => h) hck hRA hR.2.2.2 hu (fun R1 M1 h => hRR 0 0 R1 M1 hz h) (wx_go hR hRA (fun R1 M1 K2 M2 h a b c => hL 0 0 R1 M1 K2 M2 hz h a b c) k)
    simp only [w_x, bc_ok, Bool.and_eq_true, decide_eq_true_eq] at hck
    exact bc_virtM (O := p2_O) (z := 0) (g1 := 0) (k1 := 1) (ci := 0) (d' := 279) (bc' := 6) (bs' := 600) hb hz p2_nmu (bs_F0 hb) ⟨by decide, by decide⟩ (mw_k1 hb).1 h hc hmx (by decide) hcn hna hlen hst (s0 S hS) hck.1.1 hck.1.2.1 (by omega) (by omega) (by omega) (by decide) hbc hbs (ea hck.2.1 hin) (hf 0 0 hz (by decide)) hk2
  · have hz : bs_ok la 246 1 := Or.inr (Or.inr ⟨rfl, rfl, h3⟩)
    obtain ⟨S, hS, hin⟩ := mw_in v1 hx
    have hck := List.all_eq_true.mp c1 S hS
    have hk2 := wx_s hb hz hg (fun _ _ _ _ h => pl_o h) hck hRA hR.2.2.2 hu (fun R1 M1 h => hRR 246 1 R1 M1 hz h) (wx_go hR hRA (fun R1 M1 K2 M2 h a b c => hL 246 1 R1 M1 K2 M2 hz h a b c) k)
    simp only [w_x, bc_ok, Bool.and_eq_true, decide_eq_true_eq] at hck
    exact bc_virtM (O := p2_OL) (z := 246) (g1 := 1) (k1 := 1) (ci := 0) (d' := 279) (bc' := 6) (bs' := 600) hb hz pl_nmu (bs_F1 hb h3) ⟨by decide, by decide⟩ (mw_k1 hb).1 h hc hmx (by decide) hcn hna hlen hst (s1 S hS) hck.1.1 hck.1.2.1 (by omega) (by omega) (by omega) (by decide) hbc hbs (ea hck.2.1 hin) (hf 246 1 hz (by decide)) hk2
/-- behind a call on the reference -/
def mm_K (X : Int → Int) (LX bc bs pc : Nat) (L : gm_L) (st : List gm_V) (Q : gm_Q) (g : Nat) (M : gm_M) (P : Option gm_V → Prop) (oc : Option Int) (RL : (Nat → Nat) → gm_K → gm_M → Prop) : Prop := ∀ (u : Option gm_V) (la2 : Nat → Nat) (K2 : gm_K) (R2 : gm_R) (M2 : gm_M), P u → bg g la2 K2 R2 M2 → RL la2 K2 M2 → M2 245 0 = M 245 0 → (∀ c, oc = some c → M2 226 0 = c) → gm_Wp X LX 280 (bc - 6) (bs - 600) 369 pc L (u.toList ++ st) (245 + 4 * g) K2 R2 M2 Q
theorem mw_m (hb : bg g la K R M) (hg : g < 10000) (hR : MID la K M N lw A im t w f N0 lw0 A0 im0 t0 w0 f0) (h : gm_at 369 pc = some (.invokevirtual ix)) (hc : gm_cal (gm_ow 369) ix = some (0, mj)) (hmx : gm_ow mj ≠ gm_mxi) (hcn : gm_cn 11 = (gm_mn mj).cls) (hna : xs.length = gm_na mj) (hlen : xs.length + 1 ≤ gm_ml mj) (hst : (st.map gm_cat).sum ≤ 8) (s0 : ∀ S ∈ l, ck_Ok p2_O X LX mj S) (c0 : l.all w_m = true) (v0 : bc_cov 60 ds (l.map bc_box) = true) (hx : bc_in ds xs) (hi : ∀ x ∈ xs, gm_ir x) (hbc : 6 ≤ bc) (hbs : 600 ≤ bs) (hP : ∀ u, P u → u = none ∨ ∃ x, u = some (gm_vi x))
    (hf : gm_Wp X LX 279 6 600 mj 0 (gm_ent mj (gm_vr 226 :: xs.map gm_vi)) [] 245 (bs_K la K) (bs_R 100003 0) (bs_M la M) (RDQ 245 (bs_K la K) (bs_R 100003 0) P oc N lw A im t w f))
    (k : mm_K X LX bc bs (pc + 3) L st Q g M P oc (fun la2 K2 M2 => REL la2 K2 M2 N lw A im t w f)) : gm_Wp X LX 280 bc bs 369 pc L ((xs.map gm_vi).reverse ++ gm_vr 226 :: st) (245 + 4 * g) K R M Q := by
  have ea : ∀ {S : ck_Sum}, bc_args S 226 false = true → bc_in (bc_box S) xs → ∀ σ, ck_gas σ S.2.2.1 (gm_vr 226 :: xs.map gm_vi) := fun ha hin σ => by
    have := bc_gas2 (σ := σ) ha hin hi
    rwa [mw_as] at this
  obtain ⟨hRA, hRA0, hLW, hC, hRf⟩ := hR
  have hl := hb.2.2.2
  obtain ⟨S, hS, hin⟩ := mw_in v0 hx
  have hck := List.all_eq_true.mp c0 S hS
  have hk2 := wm_s (st := st) (L := L) (Q := Q) (X := X) (LX := LX) (pc := pc + 3) (bc := bc) (bs := bs) (P := P) (oc := oc) hb hg hck hRA hC hP (fun u la2 K2 R2 M2 hu e hb2 eK eM e42 e245 hcc hC2 hF2 => k u la2 K2 R2 M2 hu hb2 ⟨hRA, lwl_e hLW hl e e42 eK eM, hC2, hF2⟩ e245 hcc)
  simp only [w_m, bc_ok, Bool.and_eq_true, decide_eq_true_eq] at hck
  exact bc_virtM (O := p2_O) (z := 100003) (g1 := 0) (k1 := 226) (ci := 11) (d' := 279) (bc' := 6) (bs' := 600) hb (Or.inr (Or.inl ⟨rfl, rfl⟩)) p2_nmu (bs_F0 hb) ⟨by decide, by decide⟩ (mw_k1 hb).2 h hc hmx (by decide) hcn hna hlen hst (s0 S hS) hck.1.1 hck.1.2.1 (by omega) (by omega) (by omega) (by decide) hbc hbs (ea hck.2.1 hin) hf hk2
end MWX
end MW16
end
/-! 7c17.op -/
section
/-! THE ACTS, told of the world. -/
section OP17
variable {X : Int → Int} {LX : Nat} {g z g1 n : Nat} {la la2 : Nat → Nat} {K K1 K2 : gm_K} {R R1 R2 : gm_R} {M M1 M2 : gm_M} {L : gm_L} {st : List gm_V} {Q : gm_Q} {N N0 : Int → Int} {lw lw0 : Option (List lln)} {A A0 A' : List (Int → Int)} {im im0 : Option ((Int → Int) × Option (List lln))} {t w t0 w0 : Int} {f f0 : Int → Int} {o : gm_O} {n1 : Nat}
theorem rv_step (hz : bs_ok la z g1) (h : STEP (bs_R z g1) R1 M M1 A A') : rvR z g1 R1 := by
  rcases h with ⟨rfl, -⟩ | ⟨p, hp, -, rfl, -⟩ | ⟨p, hp, -, rfl, -⟩
  · exact rvR_0 hz
  · exact rvR_u (rvR_0 hz) (slot_s hp) (by decide)
  · exact rvR_u (rvR_0 hz) (by decide) (slot_s hp)
theorem rv_v (hz : bs_ok la z g1) (h : R1 = gm_uR (bs_R z g1) 16 8 (bs_R z g1 3 8) ∨ R1 = gm_uR (gm_uR (bs_R z g1) 16 8 (bs_R z g1 3 8)) 3 8 ((gm_uR (bs_R z g1) 16 8 (bs_R z g1 3 8)) 16 8)) : rvR z g1 R1 := by
  have h16 : rvR z g1 (gm_uR (bs_R z g1) 16 8 (bs_R z g1 3 8)) := rvR_u (rvR_0 hz) (by decide) (by decide)
  rcases h with rfl | rfl
  · exact h16
  · exact rvR_u h16 (by decide) (by decide)
/-- what may come of a call: an answer, or which refusal -/
def oV (c v : Int) : Option Int := if c = 0 then some v else none
def PV (c v : Int) : Option gm_V → Prop := fun u => ∃ x, u = some (gm_vi x) ∧ (c = 0 → x = v)
def PU (u0 : Option gm_V) : Option gm_V → Prop := fun u => u = u0
theorem pv_u {c v : Int} : ∀ u, PV c v u → u = none ∨ ∃ x, u = some (gm_vi x) := fun u ⟨x, e, _⟩ => Or.inr ⟨x, e⟩
theorem oV_s {c v y : Int} (h : oV c v = some y) : c = 0 ∧ y = v := by
  unfold oV at h
  by_cases e : c = 0
  · rw [if_pos e] at h
    cases h
    exact ⟨e, rfl⟩
  · rw [if_neg e] at h
    cases h
theorem dq_aq {r : Int × Int × (Int → Int) × List (Int → Int)} (h : AQ n K R M r lw im t w f A o n1 K1 R1 M1) : DQ n K (some (gm_vi r.1)) (oV r.1 r.2.1) (fun R1 M1 => STEP R R1 M M1 A r.2.2.2) r.2.2.1 lw r.2.2.2 im t w f o n1 K1 R1 M1 :=
  ⟨⟨h.1.1, h.1.2.1⟩, h.2.1, fun v hv => by
    obtain ⟨e1, e2⟩ := oV_s hv
    rw [e2]
    exact h.2.2.1 e1, h.2.2.2.1, h.2.2.2.2⟩
theorem rd_rq {r : Int × Int × (Int → Int) × List (Int → Int)} (hc : gm_ir r.1) (h : RQ n K R r lw im t w f o n1 K1 R1 M1) : RDQ n K R (PV r.1 r.2.1) (some r.1) r.2.2.1 lw r.2.2.2 im t w f o n1 K1 R1 M1 := by
  obtain ⟨h1, ⟨v, h2, h3⟩, h4, h5⟩ := h
  exact ⟨h1, ⟨_, h2, v, rfl, h3⟩, fun c e => by cases e; exact ⟨hc, h4⟩, h5⟩
theorem rd_rc {u : Option gm_V} (h : RC n K R (.inl u) N lw A im t w f o n1 K1 R1 M1) : RDQ n K R (PU u) none N lw A im t w f o n1 K1 R1 M1 :=
  ⟨h.1, ⟨u, h.2.1, rfl⟩, (fun c e => nomatch e), h.2.2⟩
theorem rd_rv {c v : Int} (hc : gm_ir c) (h : RV n K R c v N lw A im t w f o n1 K1 R1 M1) : RDQ n K R (PV c v) (some c) N lw A im t w f o n1 K1 R1 M1 := by
  obtain ⟨h1, ⟨v, h2, h3⟩, h4, h5⟩ := h
  exact ⟨h1, ⟨_, h2, v, rfl, h3⟩, fun c e => by cases e; exact ⟨hc, h4⟩, h5⟩
theorem dq_cq {u : Option gm_V} {RR : gm_R → gm_M → Prop} (h : CQ n K M (.inl u) RR N lw A im t w f o n1 K1 R1 M1) : DQ n K u none RR N lw A im t w f o n1 K1 R1 M1 :=
  ⟨⟨h.1.1, h.1.2.1⟩, h.2.1, (fun v e => nomatch e), h.2.2.1, h.2.2.2⟩
theorem dq_vq {r : Int × Int × (Int → Int) × List (Int → Int) × Int} (h : VQ n K R M r lw im f o n1 K1 R1 M1) : DQ n K (some (gm_vi r.1)) (oV r.1 r.2.1) (fun R1 M1 => M1 42 1 = M 42 1 ∧ (R1 = gm_uR R 16 8 (R 3 8) ∨ R1 = gm_uR (gm_uR R 16 8 (R 3 8)) 3 8 ((gm_uR R 16 8 (R 3 8)) 16 8))) r.2.2.1 lw r.2.2.2.1 im 0 r.2.2.2.2 f o n1 K1 R1 M1 :=
  ⟨⟨h.1.1, h.1.2.1⟩, h.2.1, fun v hv => by
    obtain ⟨e1, e2⟩ := oV_s hv
    rw [e2]
    exact h.2.2.1 e1, h.2.2.2.1, h.2.2.2.2⟩
theorem k245 (hE : E0 n K R) : 245 ≤ n ∧ K 245 = (2, 1) := ⟨(hE.1 245 (2, 1) (by decide +kernel)).1.2, (hE.1 245 (2, 1) (by decide +kernel)).2⟩
theorem k1_e (hE : E0 n K R) : (1 ≤ 1 ∧ 1 ≤ n) ∧ (K 1).1 = 0 + 4 := e0k hE (k := 1) (c := 0) (by decide +kernel)
theorem ns6_c : (List.range 8).all (fun s => (match gm_tyr p2_O 227 (15 + 7 * (s : Int)) (15 + 7 * (s : Int)) with
  | some q => decide (0 ≤ q.1 ∧ q.2 ≤ 98)
  | none => false) && (match gm_tyr p2_O 227 (16 + 7 * (s : Int)) (21 + 7 * (s : Int)) with
  | some q => decide (0 ≤ q.1 ∧ q.2 ≤ 20)
  | none => false)) = true := by decide +kernel
/-- speeds of all LANES that there may be -/
theorem ns6 (hF : gm_Fx p2_O n K R M) (hT : ws (M 227) = N) (hN : NR N) : NSb 6 N := fun s s0 s1 => by
  have h2 := hN.2.1.1
  obtain ⟨u, rfl⟩ : ∃ u : Nat, s = (u : Int) := ⟨s.toNat, by omega⟩
  have hc := List.all_eq_true.mp ns6_c u (List.mem_range.mpr (by omega))
  simp only [Bool.and_eq_true] at hc
  have e : ∀ j : Int, 0 ≤ j → j < 395 → ¬ j = 8 → N j = M 227 j := fun j j0 j1 j8 => by
    rw [← hT]
    exact if_pos ⟨j0, j1, j8⟩
  obtain ⟨c1, c2⟩ := hc
  constructor
  · cases h : gm_tyr p2_O 227 (15 + 7 * (u : Int)) (15 + 7 * (u : Int)) with
    | none => rw [h] at c1; cases c1
    | some q =>
      rw [h] at c1
      have c1 := of_decide_eq_true c1
      have := ((gm_tyr_s hF h).2 (15 + 7 * (u : Int)) (Int.le_refl _) (Int.le_refl _)).2
      rw [e _ (by omega) (by omega) (by omega)]
      omega
  · intro l l0 l1
    cases h : gm_tyr p2_O 227 (16 + 7 * (u : Int)) (21 + 7 * (u : Int)) with
    | none => rw [h] at c2; cases c2
    | some q =>
      rw [h] at c2
      have c2 := of_decide_eq_true c2
      have := ((gm_tyr_s hF h).2 (15 + 7 * (u : Int) + 1 + l) (by omega) (by omega)).2
      rw [e _ (by omega) (by omega) (by omega)]
      omega
theorem gJ_w (hb : bg g la K R M) : jT fun j => bs_M la M 227 (395 + j) := (bs_F0 (z := 100003) hb).2.2.2.2.2.2.1

section OPX
variable {bc bs pc ix : Nat} {l0 l1 l9 : List ck_Sum} {ds : List (Int × Int)} {a b p l y x : Int}
theorem ic_post : gm_ir (ap_post N A a b).1 := by
  have T : ∀ {P : Prop} {u v : Int × Int × (Int → Int) × List (Int → Int)}, gm_ir u.1 → gm_ir v.1 → gm_ir (tif P u v).1 := fun hu hv => tif_i (C := fun q : Int × Int × (Int → Int) × List (Int → Int) => gm_ir q.1) hu hv
  unfold ap_post
  exact T (show (-2147483648 : Int) ≤ 1 ∧ (1 : Int) < 2147483648 from by decide) (T (show (-2147483648 : Int) ≤ 2 ∧ (2 : Int) < 2147483648 from by decide) (T (show (-2147483648 : Int) ≤ 3 ∧ (3 : Int) < 2147483648 from by decide) ((show (-2147483648 : Int) ≤ 0 ∧ (0 : Int) < 2147483648 from by decide))))
theorem ow_post (hb : bg g la K R M) (hg : g < 10000) (hR : REL la K M N lw A im t w f) (h : gm_at 369 pc = some (.invokestatic ix)) (hc : gm_cal (gm_ow 369) ix = some (5, 151)) (hst : (st.map gm_cat).sum ≤ 8) (s0 : ∀ S ∈ l0, ck_Ok p2_O X LX 151 S) (s1 : ∀ S ∈ l1, ck_Ok p2_OL X LX 151 S) (c0 : l0.all (w_x p2_O 0 0 1 true) = true) (c1 : l1.all (w_x p2_OL 246 1 1 true) = true) (v0 : bc_cov 60 ds (l0.map bc_box) = true) (v1 : bc_cov 60 ds (l1.map bc_box) = true) (hx : bc_in ds [a, b]) (ha : gm_ir a) (hb2 : gm_ir b) (hbc : 6 ≤ bc) (hbs : 600 ≤ bs) (k : mw_K X LX bc bs (pc + 3) L st Q g (some (gm_vi (ap_post N A a b).1)) (oV (ap_post N A a b).1 (ap_post N A a b).2.1) (fun la2 K2 M2 => MID la2 K2 M2 (ap_post N A a b).2.2.1 lw (ap_post N A a b).2.2.2 im t w f N lw A im t w f)) : gm_Wp X LX 280 bc bs 369 pc L (gm_vr 245 :: gm_vi b :: gm_vi a :: gm_vr 1 :: st) (245 + 4 * g) K R M Q := by
  refine mw_x (xs := [a, b]) (mj := 151) (u := some (gm_vi (ap_post N A a b).1)) (ov := oV (ap_post N A a b).1 (ap_post N A a b).2.1) (RR := fun z g1 R1 M1 => STEP (bs_R z g1) R1 (bs_M la M) M1 A (ap_post N A a b).2.2.2) hb hg hR (ra_post hR.1 ha hb2) h hc (by decide +kernel) (by decide +kernel) (show 2 + 2 = gm_na 151 by decide +kernel) (show 2 + 2 ≤ gm_ml 151 by decide +kernel) hst s0 s1 c0 c1 v0 v1 hx (by intro v hv; simp only [List.mem_cons, List.not_mem_nil, or_false] at hv; rcases hv with rfl | rfl <;> assumption) hbc hbs (Or.inr ⟨_, rfl⟩) (fun z g1 hz hz3 => ?_) (fun z g1 R1 M1 hz hs => rv_step hz hs) (fun z g1 R1 M1 K2 M2 hz hs eK eM e42 => lwl_step hR.2.1 hb.2.2.2 hz hs e42 eK eM) k
  have hE := e0_w hb hz
  exact hl_151 (k1_e hE) (gm_Wp_mono (fun o n1 K1 R1 M1 hq => ⟨hq.1, hq.2.imp (fun ⟨v, e, q⟩ => ⟨v, e, dq_aq q⟩) (fun ⟨i, hi, e, q⟩ => ⟨i, hi, e, dq_aq q⟩)⟩) (ca_post (d := 278) (bc := 6) (bs := 600) (by decide) (by decide) (by decide) hE (k245 hE).1 (k245 hE).2 hR.1.1 (clv_w hb hR.2.2.1) ha hb2))
theorem om_post (hb : bg g la K R M) (hg : g < 10000) (hR : MID la K M (ap_post N A a b).2.2.1 lw (ap_post N A a b).2.2.2 im t w f N lw A im t w f) (h : gm_at 369 pc = some (.invokevirtual ix)) (hc : gm_cal (gm_ow 369) ix = some (0, 315)) (hst : (st.map gm_cat).sum ≤ 8) (s0 : ∀ S ∈ l9, ck_Ok p2_O X LX 315 S) (c0 : l9.all w_m = true) (v0 : bc_cov 60 ds (l9.map bc_box) = true) (hx : bc_in ds [a, b]) (ha : gm_ir a) (hb2 : gm_ir b) (hbc : 6 ≤ bc) (hbs : 600 ≤ bs) (k : mm_K X LX bc bs (pc + 3) L st Q g M (PV (ap_post N A a b).1 (ap_post N A a b).2.1) (some (ap_post N A a b).1) (fun la2 K2 M2 => REL la2 K2 M2 (ap_post N A a b).2.2.1 lw (ap_post N A a b).2.2.2 im t w f)) : gm_Wp X LX 280 bc bs 369 pc L (gm_vi b :: gm_vi a :: gm_vr 226 :: st) (245 + 4 * g) K R M Q := by
  refine mw_m (xs := [a, b]) (mj := 315) (P := PV (ap_post N A a b).1 (ap_post N A a b).2.1) (oc := some (ap_post N A a b).1) hb hg hR h hc (by decide +kernel) (by decide +kernel) (show 2 = gm_na 315 by decide +kernel) (show 2 + 1 ≤ gm_ml 315 by decide +kernel) hst s0 c0 v0 hx (by intro v hv; simp only [List.mem_cons, List.not_mem_nil, or_false] at hv; rcases hv with rfl | rfl <;> assumption) hbc hbs pv_u ?_ k
  exact gm_Wp_mono (fun o n1 K1 R1 M1 hq => rd_rq ic_post hq) (rr_post (by decide) (e0_w hb (Or.inr (Or.inl ⟨rfl, rfl⟩))) hR.2.1.1 (rfv_w hR.2.2.2.2) ha hb2)
theorem ic_watch : gm_ir (ap_watch N A p l).1 := by
  have T : ∀ {P : Prop} {u v : Int × Int × (Int → Int) × List (Int → Int)}, gm_ir u.1 → gm_ir v.1 → gm_ir (tif P u v).1 := fun hu hv => tif_i (C := fun q : Int × Int × (Int → Int) × List (Int → Int) => gm_ir q.1) hu hv
  unfold ap_watch
  exact T (show (-2147483648 : Int) ≤ 1 ∧ (1 : Int) < 2147483648 from by decide) ((show (-2147483648 : Int) ≤ 0 ∧ (0 : Int) < 2147483648 from by decide))
theorem ow_watch (hb : bg g la K R M) (hg : g < 10000) (hR : REL la K M N lw A im t w f) (h : gm_at 369 pc = some (.invokestatic ix)) (hc : gm_cal (gm_ow 369) ix = some (5, 155)) (hst : (st.map gm_cat).sum ≤ 8) (s0 : ∀ S ∈ l0, ck_Ok p2_O X LX 155 S) (s1 : ∀ S ∈ l1, ck_Ok p2_OL X LX 155 S) (c0 : l0.all (w_x p2_O 0 0 1 true) = true) (c1 : l1.all (w_x p2_OL 246 1 1 true) = true) (v0 : bc_cov 60 ds (l0.map bc_box) = true) (v1 : bc_cov 60 ds (l1.map bc_box) = true) (hx : bc_in ds [p, l]) (hp : gm_ir p) (hl : gm_ir l) (hbc : 6 ≤ bc) (hbs : 600 ≤ bs) (k : mw_K X LX bc bs (pc + 3) L st Q g (some (gm_vi (ap_watch N A p l).1)) (oV (ap_watch N A p l).1 (ap_watch N A p l).2.1) (fun la2 K2 M2 => MID la2 K2 M2 (ap_watch N A p l).2.2.1 lw (ap_watch N A p l).2.2.2 im t w f N lw A im t w f)) : gm_Wp X LX 280 bc bs 369 pc L (gm_vr 245 :: gm_vi l :: gm_vi p :: gm_vr 1 :: st) (245 + 4 * g) K R M Q := by
  refine mw_x (xs := [p, l]) (mj := 155) (u := some (gm_vi (ap_watch N A p l).1)) (ov := oV (ap_watch N A p l).1 (ap_watch N A p l).2.1) (RR := fun z g1 R1 M1 => STEP (bs_R z g1) R1 (bs_M la M) M1 A (ap_watch N A p l).2.2.2) hb hg hR (ra_watch hR.1 hl) h hc (by decide +kernel) (by decide +kernel) (show 2 + 2 = gm_na 155 by decide +kernel) (show 2 + 2 ≤ gm_ml 155 by decide +kernel) hst s0 s1 c0 c1 v0 v1 hx (by intro v hv; simp only [List.mem_cons, List.not_mem_nil, or_false] at hv; rcases hv with rfl | rfl <;> assumption) hbc hbs (Or.inr ⟨_, rfl⟩) (fun z g1 hz hz3 => ?_) (fun z g1 R1 M1 hz hs => rv_step hz hs) (fun z g1 R1 M1 K2 M2 hz hs eK eM e42 => lwl_step hR.2.1 hb.2.2.2 hz hs e42 eK eM) k
  have hE := e0_w hb hz
  exact hl_155 (k1_e hE) (gm_Wp_mono (fun o n1 K1 R1 M1 hq => ⟨hq.1, hq.2.imp (fun ⟨v, e, q⟩ => ⟨v, e, dq_aq q⟩) (fun ⟨i, hi, e, q⟩ => ⟨i, hi, e, dq_aq q⟩)⟩) (ca_watch (d := 278) (bc := 6) (bs := 600) (by decide) (by decide) (by decide) hE (k245 hE).1 (k245 hE).2 hR.1.1 (clv_w hb hR.2.2.1) hp hl))
theorem om_watch (hb : bg g la K R M) (hg : g < 10000) (hR : MID la K M (ap_watch N A p l).2.2.1 lw (ap_watch N A p l).2.2.2 im t w f N lw A im t w f) (h : gm_at 369 pc = some (.invokevirtual ix)) (hc : gm_cal (gm_ow 369) ix = some (0, 317)) (hst : (st.map gm_cat).sum ≤ 8) (s0 : ∀ S ∈ l9, ck_Ok p2_O X LX 317 S) (c0 : l9.all w_m = true) (v0 : bc_cov 60 ds (l9.map bc_box) = true) (hx : bc_in ds [p, l]) (hp : gm_ir p) (hl : gm_ir l) (hbc : 6 ≤ bc) (hbs : 600 ≤ bs) (k : mm_K X LX bc bs (pc + 3) L st Q g M (PV (ap_watch N A p l).1 (ap_watch N A p l).2.1) (some (ap_watch N A p l).1) (fun la2 K2 M2 => REL la2 K2 M2 (ap_watch N A p l).2.2.1 lw (ap_watch N A p l).2.2.2 im t w f)) : gm_Wp X LX 280 bc bs 369 pc L (gm_vi l :: gm_vi p :: gm_vr 226 :: st) (245 + 4 * g) K R M Q := by
  refine mw_m (xs := [p, l]) (mj := 317) (P := PV (ap_watch N A p l).1 (ap_watch N A p l).2.1) (oc := some (ap_watch N A p l).1) hb hg hR h hc (by decide +kernel) (by decide +kernel) (show 2 = gm_na 317 by decide +kernel) (show 2 + 1 ≤ gm_ml 317 by decide +kernel) hst s0 c0 v0 hx (by intro v hv; simp only [List.mem_cons, List.not_mem_nil, or_false] at hv; rcases hv with rfl | rfl <;> assumption) hbc hbs pv_u ?_ k
  exact gm_Wp_mono (fun o n1 K1 R1 M1 hq => rd_rq ic_watch hq) (rr_watch (by decide) (e0_w hb (Or.inr (Or.inl ⟨rfl, rfl⟩))) hR.2.1.1 (rfv_w hR.2.2.2.2) hp hl)
theorem ic_open : gm_ir (ap_open lw N A l).1 := by
  have T : ∀ {P : Prop} {u v : Int × Int × (Int → Int) × List (Int → Int)}, gm_ir u.1 → gm_ir v.1 → gm_ir (tif P u v).1 := fun hu hv => tif_i (C := fun q : Int × Int × (Int → Int) × List (Int → Int) => gm_ir q.1) hu hv
  unfold ap_open
  exact T (show (-2147483648 : Int) ≤ 1 ∧ (1 : Int) < 2147483648 from by decide) (T (show (-2147483648 : Int) ≤ 2 ∧ (2 : Int) < 2147483648 from by decide) ((show (-2147483648 : Int) ≤ 0 ∧ (0 : Int) < 2147483648 from by decide)))
theorem ow_open (hb : bg g la K R M) (hg : g < 10000) (hR : REL la K M N lw A im t w f) (h : gm_at 369 pc = some (.invokestatic ix)) (hc : gm_cal (gm_ow 369) ix = some (5, 157)) (hst : (st.map gm_cat).sum ≤ 8) (s0 : ∀ S ∈ l0, ck_Ok p2_O X LX 157 S) (s1 : ∀ S ∈ l1, ck_Ok p2_OL X LX 157 S) (c0 : l0.all (w_x p2_O 0 0 1 true) = true) (c1 : l1.all (w_x p2_OL 246 1 1 true) = true) (v0 : bc_cov 60 ds (l0.map bc_box) = true) (v1 : bc_cov 60 ds (l1.map bc_box) = true) (hx : bc_in ds [l]) (hl : gm_ir l) (hbc : 6 ≤ bc) (hbs : 600 ≤ bs) (k : mw_K X LX bc bs (pc + 3) L st Q g (some (gm_vi (ap_open lw N A l).1)) (oV (ap_open lw N A l).1 (ap_open lw N A l).2.1) (fun la2 K2 M2 => MID la2 K2 M2 (ap_open lw N A l).2.2.1 lw (ap_open lw N A l).2.2.2 im t w f N lw A im t w f)) : gm_Wp X LX 280 bc bs 369 pc L (gm_vr 245 :: gm_vi l :: gm_vr 1 :: st) (245 + 4 * g) K R M Q := by
  refine mw_x (xs := [l]) (mj := 157) (u := some (gm_vi (ap_open lw N A l).1)) (ov := oV (ap_open lw N A l).1 (ap_open lw N A l).2.1) (RR := fun z g1 R1 M1 => STEP (bs_R z g1) R1 (bs_M la M) M1 A (ap_open lw N A l).2.2.2) hb hg hR (ra_open hR.1) h hc (by decide +kernel) (by decide +kernel) (show 1 + 2 = gm_na 157 by decide +kernel) (show 1 + 2 ≤ gm_ml 157 by decide +kernel) hst s0 s1 c0 c1 v0 v1 hx (by intro v hv; simp only [List.mem_cons, List.not_mem_nil, or_false] at hv; rcases hv with rfl <;> assumption) hbc hbs (Or.inr ⟨_, rfl⟩) (fun z g1 hz hz3 => ?_) (fun z g1 R1 M1 hz hs => rv_step hz hs) (fun z g1 R1 M1 K2 M2 hz hs eK eM e42 => lwl_step hR.2.1 hb.2.2.2 hz hs e42 eK eM) k
  have hE := e0_w hb hz
  obtain ⟨NC, C, Ln, hcc, hlb⟩ := cc_w hb hz hz3 hR.2.1.1 hR.2.2.2.1.2.1
  exact hl_157 (k1_e hE) (gm_Wp_mono (fun o n1 K1 R1 M1 hq => ⟨hq.1, hq.2.imp (fun ⟨v, e, q⟩ => ⟨v, e, dq_aq q⟩) (fun ⟨i, hi, e, q⟩ => ⟨i, hi, e, dq_aq q⟩)⟩) (ca_open (d := 278) (bc := 6) (bs := 600) (by decide) (by decide) (by decide) hE (k245 hE).1 (k245 hE).2 hcc hlb hR.1.1 (clv_w hb hR.2.2.1) hl))
theorem om_open (hb : bg g la K R M) (hg : g < 10000) (hR : MID la K M (ap_open lw N A l).2.2.1 lw (ap_open lw N A l).2.2.2 im t w f N lw A im t w f) (h : gm_at 369 pc = some (.invokevirtual ix)) (hc : gm_cal (gm_ow 369) ix = some (0, 318)) (hst : (st.map gm_cat).sum ≤ 8) (s0 : ∀ S ∈ l9, ck_Ok p2_O X LX 318 S) (c0 : l9.all w_m = true) (v0 : bc_cov 60 ds (l9.map bc_box) = true) (hx : bc_in ds [l]) (hl : gm_ir l) (hbc : 6 ≤ bc) (hbs : 600 ≤ bs) (k : mm_K X LX bc bs (pc + 3) L st Q g M (PV (ap_open lw N A l).1 (ap_open lw N A l).2.1) (some (ap_open lw N A l).1) (fun la2 K2 M2 => REL la2 K2 M2 (ap_open lw N A l).2.2.1 lw (ap_open lw N A l).2.2.2 im t w f)) : gm_Wp X LX 280 bc bs 369 pc L (gm_vi l :: gm_vr 226 :: st) (245 + 4 * g) K R M Q := by
  refine mw_m (xs := [l]) (mj := 318) (P := PV (ap_open lw N A l).1 (ap_open lw N A l).2.1) (oc := some (ap_open lw N A l).1) hb hg hR h hc (by decide +kernel) (by decide +kernel) (show 1 = gm_na 318 by decide +kernel) (show 1 + 1 ≤ gm_ml 318 by decide +kernel) hst s0 c0 v0 hx (by intro v hv; simp only [List.mem_cons, List.not_mem_nil, or_false] at hv; rcases hv with rfl <;> assumption) hbc hbs pv_u ?_ k
  exact gm_Wp_mono (fun o n1 K1 R1 M1 hq => rd_rq ic_open hq) (rr_open (by decide) (e0_w hb (Or.inr (Or.inl ⟨rfl, rfl⟩))) (gJ_w hb) (ns6 (bs_F0 (z := 100003) hb) (rfv_w (la := la) hR.2.2.2.2).1.1.1 hR.2.1.1.1.1) hR.2.1.1 (rfv_w hR.2.2.2.2) hl)
theorem ic_years : gm_ir (ap_years lw N A y).1 := by
  have T : ∀ {P : Prop} {u v : Int × Int × (Int → Int) × List (Int → Int)}, gm_ir u.1 → gm_ir v.1 → gm_ir (tif P u v).1 := fun hu hv => tif_i (C := fun q : Int × Int × (Int → Int) × List (Int → Int) => gm_ir q.1) hu hv
  unfold ap_years
  exact T (show (-2147483648 : Int) ≤ 1 ∧ (1 : Int) < 2147483648 from by decide) ((show (-2147483648 : Int) ≤ 0 ∧ (0 : Int) < 2147483648 from by decide))
theorem ow_years (hb : bg g la K R M) (hg : g < 10000) (hR : REL la K M N lw A im t w f) (h : gm_at 369 pc = some (.invokestatic ix)) (hc : gm_cal (gm_ow 369) ix = some (5, 160)) (hst : (st.map gm_cat).sum ≤ 8) (s0 : ∀ S ∈ l0, ck_Ok p2_O X LX 160 S) (s1 : ∀ S ∈ l1, ck_Ok p2_OL X LX 160 S) (c0 : l0.all (w_x p2_O 0 0 1 true) = true) (c1 : l1.all (w_x p2_OL 246 1 1 true) = true) (v0 : bc_cov 60 ds (l0.map bc_box) = true) (v1 : bc_cov 60 ds (l1.map bc_box) = true) (hx : bc_in ds [y]) (hy : gm_ir y) (hbc : 6 ≤ bc) (hbs : 600 ≤ bs) (k : mw_K X LX bc bs (pc + 3) L st Q g (some (gm_vi (ap_years lw N A y).1)) (oV (ap_years lw N A y).1 (ap_years lw N A y).2.1) (fun la2 K2 M2 => MID la2 K2 M2 (ap_years lw N A y).2.2.1 lw (ap_years lw N A y).2.2.2 im t w f N lw A im t w f)) : gm_Wp X LX 280 bc bs 369 pc L (gm_vr 245 :: gm_vi y :: gm_vr 1 :: st) (245 + 4 * g) K R M Q := by
  refine mw_x (xs := [y]) (mj := 160) (u := some (gm_vi (ap_years lw N A y).1)) (ov := oV (ap_years lw N A y).1 (ap_years lw N A y).2.1) (RR := fun z g1 R1 M1 => STEP (bs_R z g1) R1 (bs_M la M) M1 A (ap_years lw N A y).2.2.2) hb hg hR (ra_years hR.1) h hc (by decide +kernel) (by decide +kernel) (show 1 + 2 = gm_na 160 by decide +kernel) (show 1 + 2 ≤ gm_ml 160 by decide +kernel) hst s0 s1 c0 c1 v0 v1 hx (by intro v hv; simp only [List.mem_cons, List.not_mem_nil, or_false] at hv; rcases hv with rfl <;> assumption) hbc hbs (Or.inr ⟨_, rfl⟩) (fun z g1 hz hz3 => ?_) (fun z g1 R1 M1 hz hs => rv_step hz hs) (fun z g1 R1 M1 K2 M2 hz hs eK eM e42 => lwl_step hR.2.1 hb.2.2.2 hz hs e42 eK eM) k
  have hE := e0_w hb hz
  obtain ⟨NC, C, Ln, hcc, hlb⟩ := cc_w hb hz hz3 hR.2.1.1 hR.2.2.2.1.2.1
  exact hl_160 (k1_e hE) (gm_Wp_mono (fun o n1 K1 R1 M1 hq => ⟨hq.1, hq.2.imp (fun ⟨v, e, q⟩ => ⟨v, e, dq_aq q⟩) (fun ⟨i, hi, e, q⟩ => ⟨i, hi, e, dq_aq q⟩)⟩) (ca_years (d := 278) (bc := 6) (bs := 600) (by decide) (by decide) (by decide) hE (k245 hE).1 (k245 hE).2 hcc hlb hR.1.1 (clv_w hb hR.2.2.1) hy))
theorem om_years (hb : bg g la K R M) (hg : g < 10000) (hR : MID la K M (ap_years lw N A y).2.2.1 lw (ap_years lw N A y).2.2.2 im t w f N lw A im t w f) (h : gm_at 369 pc = some (.invokevirtual ix)) (hc : gm_cal (gm_ow 369) ix = some (0, 320)) (hst : (st.map gm_cat).sum ≤ 8) (s0 : ∀ S ∈ l9, ck_Ok p2_O X LX 320 S) (c0 : l9.all w_m = true) (v0 : bc_cov 60 ds (l9.map bc_box) = true) (hx : bc_in ds [y]) (hy : gm_ir y) (hbc : 6 ≤ bc) (hbs : 600 ≤ bs) (k : mm_K X LX bc bs (pc + 3) L st Q g M (PV (ap_years lw N A y).1 (ap_years lw N A y).2.1) (some (ap_years lw N A y).1) (fun la2 K2 M2 => REL la2 K2 M2 (ap_years lw N A y).2.2.1 lw (ap_years lw N A y).2.2.2 im t w f)) : gm_Wp X LX 280 bc bs 369 pc L (gm_vi y :: gm_vr 226 :: st) (245 + 4 * g) K R M Q := by
  refine mw_m (xs := [y]) (mj := 320) (P := PV (ap_years lw N A y).1 (ap_years lw N A y).2.1) (oc := some (ap_years lw N A y).1) hb hg hR h hc (by decide +kernel) (by decide +kernel) (show 1 = gm_na 320 by decide +kernel) (show 1 + 1 ≤ gm_ml 320 by decide +kernel) hst s0 c0 v0 hx (by intro v hv; simp only [List.mem_cons, List.not_mem_nil, or_false] at hv; rcases hv with rfl <;> assumption) hbc hbs pv_u ?_ k
  exact gm_Wp_mono (fun o n1 K1 R1 M1 hq => rd_rq ic_years hq) (rr_years (by decide) (e0_w hb (Or.inr (Or.inl ⟨rfl, rfl⟩))) (gJ_w hb) (ns6 (bs_F0 (z := 100003) hb) (rfv_w (la := la) hR.2.2.2.2).1.1.1 hR.2.1.1.1.1) hR.2.1.1 (rfv_w hR.2.2.2.2) hy)
end OPX
end OP17
end
/-! 7c18.ov -/
section
/-! A TEXT OF THE VALLEY, UNDO, THE IMAGE, BACK, FEED, told of the world. -/
section OV18
variable {X : Int → Int} {LX : Nat} {g z g1 n : Nat} {la la2 : Nat → Nat} {K K1 K2 : gm_K} {R R1 R2 : gm_R} {M M1 M2 : gm_M} {L : gm_L} {st : List gm_V} {Q : gm_Q} {N N0 : Int → Int} {lw lw0 : Option (List lln)} {A A0 A' : List (Int → Int)} {im im0 : Option ((Int → Int) × Option (List lln))} {t w t0 w0 : Int} {f f0 a : Int → Int} {o : gm_O} {n1 bc bs pc ix : Nat} {l0 l1 l9 : List ck_Sum} {ds : List (Int × Int)}
theorem vf_ra (h : RA N lw A im t w f) : VF f t := ⟨h.2.2.2.2.1, h.2.2.2.2.2.2⟩
theorem ov_A : (ap_valley f t N A).2.2.2.1 = A ∨ (ap_valley f t N A).2.2.2.1 = [] := by
  unfold ap_valley
  by_cases h1 : ¬ (v_val f t N).1 = true
  · rw [tif_t h1]; exact Or.inl rfl
  rw [tif_f h1]
  by_cases h2 : N 7 = 12
  · rw [tif_t h2]; exact Or.inl rfl
  rw [tif_f h2]
  exact Or.inr rfl
theorem ic_valley : gm_ir (ap_valley f t N A).1 := by
  unfold ap_valley
  by_cases h1 : ¬ (v_val f t N).1 = true
  · rw [tif_t h1]; exact (show (-2147483648 : Int) ≤ 1 ∧ (1 : Int) < 2147483648 from by decide)
  rw [tif_f h1]
  by_cases h2 : N 7 = 12
  · rw [tif_t h2]; exact (show (-2147483648 : Int) ≤ 2 ∧ (2 : Int) < 2147483648 from by decide)
  rw [tif_f h2]
  exact (show (-2147483648 : Int) ≤ 0 ∧ (0 : Int) < 2147483648 from by decide)
theorem ic_law : gm_ir (ap_law f t lw A).1 := by
  unfold ap_law
  by_cases h1 : ¬ (g_law f t).1 = true
  · rw [tif_t h1]; exact (show (-2147483648 : Int) ≤ 1 ∧ (1 : Int) < 2147483648 from by decide)
  rw [tif_f h1]
  exact (show (-2147483648 : Int) ≤ 0 ∧ (0 : Int) < 2147483648 from by decide)
/-- the class's TAPE, told exactly -/
theorem fe_ne (h : M 1 1 = t) {k : Nat} {j : Int} (hk : ¬ k = 2) : fe M t f k j = M k j := by
  by_cases e : k = 1 ∧ j = 1
  · obtain ⟨rfl, rfl⟩ := e
    exact fe_11.trans h.symm
  · exact fe_x e hk
theorem ow_valley (hb : bg g la K R M) (hg : g < 10000) (hR : REL la K M N lw A im t w f) (h : gm_at 369 pc = some (.invokestatic ix)) (hc : gm_cal (gm_ow 369) ix = some (5, 70)) (hst : (st.map gm_cat).sum ≤ 8) (s0 : ∀ S ∈ l0, ck_Ok p2_O X LX 70 S) (s1 : ∀ S ∈ l1, ck_Ok p2_OL X LX 70 S) (c0 : l0.all (w_x p2_O 0 0 1 true) = true) (c1 : l1.all (w_x p2_OL 246 1 1 true) = true) (v0 : bc_cov 60 ds (l0.map bc_box) = true) (v1 : bc_cov 60 ds (l1.map bc_box) = true) (hx : bc_in ds []) (hbc : 6 ≤ bc) (hbs : 600 ≤ bs) (k : mw_K X LX bc bs (pc + 3) L st Q g (some (gm_vi (ap_valley f t N A).1)) (oV (ap_valley f t N A).1 (ap_valley f t N A).2.1) (fun la2 K2 M2 => MID la2 K2 M2 (ap_valley f t N A).2.2.1 lw (ap_valley f t N A).2.2.2.1 im 0 (ap_valley f t N A).2.2.2.2 f N lw A im t w f)) : gm_Wp X LX 280 bc bs 369 pc L (gm_vr 245 :: gm_vr 1 :: st) (245 + 4 * g) K R M Q := by
  refine mw_x (xs := []) (mj := 70) (u := some (gm_vi (ap_valley f t N A).1)) (ov := oV (ap_valley f t N A).1 (ap_valley f t N A).2.1) (RR := fun z g1 R1 M1 => M1 42 1 = M 42 1 ∧ (R1 = gm_uR (bs_R z g1) 16 8 (bs_R z g1 3 8) ∨ R1 = gm_uR (gm_uR (bs_R z g1) 16 8 (bs_R z g1 3 8)) 3 8 ((gm_uR (bs_R z g1) 16 8 (bs_R z g1 3 8)) 16 8))) hb hg hR (ra_valley hR.1) h hc (by decide +kernel) (by decide +kernel) (show 0 + 2 = gm_na 70 by decide +kernel) (show 0 + 2 ≤ gm_ml 70 by decide +kernel) hst s0 s1 c0 c1 v0 v1 hx (fun _ h => nomatch h) hbc hbs (Or.inr ⟨_, rfl⟩) (fun z g1 hz hz3 => ?_) (fun z g1 R1 M1 hz hs => rv_v hz hs.2) (fun z g1 R1 M1 K2 M2 hz hs eK eM e42 => lwl_v hR.2.1 hb.2.2.2 hz hs.2 ov_A (e42.trans hs.1) eK eM) k
  have hE := e0_w hb hz
  have hV := clv_w hb hR.2.2.1
  have F0 := bs_F0 (z := 0) hb
  have k2 := (hE.1 2 (1, 400) (by decide +kernel)).2
  have m214 : bs_M la M 214 1 = 4 := by
    have := ((gm_tyr_s F0 (show gm_tyr p2_O 214 1 1 = some (4, 4) by decide +kernel)).2 1 (Int.le_refl _) (Int.le_refl _)).2
    omega
  have m213 : bs_M la M 213 1 = 14 := by
    have := ((gm_tyr_s F0 (show gm_tyr p2_O 213 1 1 = some (14, 14) by decide +kernel)).2 1 (Int.le_refl _) (Int.le_refl _)).2
    omega
  have e42 : fe (bs_M la M) t f 42 1 = M 42 1 := (fe_ne hV.2.2.2.2.1.1 (by decide)).trans (vM (by decide))
  refine gm_Wp_nM (c := 2) (len := 400) (M' := fe (bs_M la M) t f) k2 (fun k j hk => fe_ne hV.2.2.2.2.1.1 hk) (fun j hj => fe_2.trans (hV.2.2.2.2.2 (j : Int) (by omega) (by omega)).symm) ?_
  have cv := fun {o : gm_O} {n1 : Nat} {K1 : gm_K} {R1 : gm_R} {M1 : gm_M} (q : VQ (245 + 4 * g1) (bs_K la K) (bs_R z g1) (fe (bs_M la M) t f) (ap_valley f t N A) lw im f o n1 K1 R1 M1) => (show DQ (245 + 4 * g1) (bs_K la K) (some (gm_vi (ap_valley f t N A).1)) (oV (ap_valley f t N A).1 (ap_valley f t N A).2.1) (fun R1 M1 => M1 42 1 = M 42 1 ∧ (R1 = gm_uR (bs_R z g1) 16 8 (bs_R z g1 3 8) ∨ R1 = gm_uR (gm_uR (bs_R z g1) 16 8 (bs_R z g1 3 8)) 3 8 ((gm_uR (bs_R z g1) 16 8 (bs_R z g1 3 8)) 16 8))) (ap_valley f t N A).2.2.1 lw (ap_valley f t N A).2.2.2.1 im 0 (ap_valley f t N A).2.2.2.2 f o n1 K1 R1 M1 from ⟨(dq_vq q).1, (dq_vq q).2.1, (dq_vq q).2.2.1, (dq_vq q).2.2.2.1, (dq_vq q).2.2.2.2.1.trans e42, (dq_vq q).2.2.2.2.2⟩)
  exact hl_70 (k1_e hE) (gm_Wp_mono (fun o n1 K1 R1 M1 hq => ⟨hq.1, hq.2.imp (fun ⟨v, e, q⟩ => ⟨v, e, cv q⟩) (fun ⟨i, hi, e, q⟩ => ⟨i, hi, e, cv q⟩)⟩) (ca_valley (d := 278) (bc := 6) (bs := 600) (by decide) (by decide) (by decide) hE (k245 hE).1 (k245 hE).2 (vf_ra hR.1) (funext fun j => fe_2) ((fe_x (by omega) (by decide)).trans m214) ((fe_x (by omega) (by decide)).trans m213) hR.1.1 (clv_tape hV (fun _ _ _ => rfl))))
theorem rf_exact (hV : RFV N lw A im t w f M) : RFV N lw A im t w f (fun k j => if k = 231 then f j else M k j) := rfv_tape hV ((if_neg (by decide)).trans hV.2.2.2.1.1) (fun j _ _ => if_pos rfl) (fun k j _ hk _ => if_neg hk)
theorem om_valley (hb : bg g la K R M) (hg : g < 10000) (hR : MID la K M (ap_valley f t N A).2.2.1 lw (ap_valley f t N A).2.2.2.1 im 0 (ap_valley f t N A).2.2.2.2 f N lw A im t w f) (h : gm_at 369 pc = some (.invokevirtual ix)) (hc : gm_cal (gm_ow 369) ix = some (0, 242)) (hst : (st.map gm_cat).sum ≤ 8) (s0 : ∀ S ∈ l9, ck_Ok p2_O X LX 242 S) (c0 : l9.all w_m = true) (v0 : bc_cov 60 ds (l9.map bc_box) = true) (hx : bc_in ds []) (hbc : 6 ≤ bc) (hbs : 600 ≤ bs) (k : mm_K X LX bc bs (pc + 3) L st Q g M (PV (ap_valley f t N A).1 (ap_valley f t N A).2.1) (some (ap_valley f t N A).1) (fun la2 K2 M2 => REL la2 K2 M2 (ap_valley f t N A).2.2.1 lw (ap_valley f t N A).2.2.2.1 im 0 (ap_valley f t N A).2.2.2.2 f)) : gm_Wp X LX 280 bc bs 369 pc L (gm_vr 226 :: st) (245 + 4 * g) K R M Q := by
  refine mw_m (xs := []) (mj := 242) (P := PV (ap_valley f t N A).1 (ap_valley f t N A).2.1) (oc := some (ap_valley f t N A).1) hb hg hR h hc (by decide +kernel) (by decide +kernel) (show 0 = gm_na 242 by decide +kernel) (show 0 + 1 ≤ gm_ml 242 by decide +kernel) hst s0 c0 v0 hx (fun _ h => nomatch h) hbc hbs pv_u ?_ k
  have hE : E0 245 (bs_K la K) (bs_R 100003 0) := e0_w hb (Or.inr (Or.inl ⟨rfl, rfl⟩))
  have hV := rfv_w (la := la) hR.2.2.2.2
  have k231 := (hE.1 231 (1, 400) (by decide +kernel)).2
  refine gm_Wp_nM (c := 231) (len := 400) (M' := fun k j => if k = 231 then f j else bs_M la M k j) k231 (fun k j hk => if_neg hk) (fun j hj => (if_pos rfl).trans (hV.2.2.2.2 (j : Int) (by omega) (by omega)).symm) ?_
  exact gm_Wp_mono (fun o n1 K1 R1 M1 hq => rd_rv ic_valley hq) (rr_valley (by decide) hE (vf_ra hR.2.1) (funext fun j => if_pos rfl) hR.2.1.1 (rf_exact hV))
theorem ow_undo (hb : bg g la K R M) (hg : g < 10000) (hR : REL la K M N lw A im t w f) (h : gm_at 369 pc = some (.invokevirtual ix)) (hc : gm_cal (gm_ow 369) ix = some (0, 54)) (hst : (st.map gm_cat).sum ≤ 8) (s0 : ∀ S ∈ l0, ck_Ok p2_O X LX 54 S) (s1 : ∀ S ∈ l1, ck_Ok p2_OL X LX 54 S) (c0 : l0.all (w_x p2_O 0 0 1 false) = true) (c1 : l1.all (w_x p2_OL 246 1 1 false) = true) (v0 : bc_cov 60 ds (l0.map bc_box) = true) (v1 : bc_cov 60 ds (l1.map bc_box) = true) (hx : bc_in ds []) (hbc : 6 ≤ bc) (hbs : 600 ≤ bs) (k : mw_K X LX bc bs (pc + 3) L st Q g (some (gm_vi (ap_undo N A).1)) none (fun la2 K2 M2 => MID la2 K2 M2 (ap_undo N A).2.1 lw (ap_undo N A).2.2 im t w f N lw A im t w f)) : gm_Wp X LX 280 bc bs 369 pc L (gm_vr 1 :: st) (245 + 4 * g) K R M Q :=
  mw_d (xs := []) (mj := 54) (u := some (gm_vi (ap_undo N A).1)) (ov := none) (RR := fun z g1 R1 M1 => STEP (bs_R z g1) R1 (bs_M la M) M1 A (ap_undo N A).2.2) hb hg hR (ra_undo hR.1) h hc (by decide +kernel) (by decide +kernel) (show 0 = gm_na 54 by decide +kernel) (show 0 + 1 ≤ gm_ml 54 by decide +kernel) hst s0 s1 c0 c1 v0 v1 hx (fun _ h => nomatch h) hbc hbs (Or.inr ⟨_, rfl⟩) (fun z g1 hz hz3 => gm_Wp_mono (fun o n1 K1 R1 M1 hq => dq_cq hq) (ca_undo (by decide) (e0_w hb hz) hR.1.1 hR.1.2.2.1 (clv_w hb hR.2.2.1))) (fun z g1 R1 M1 hz hs => rv_step hz hs) (fun z g1 R1 M1 K2 M2 hz hs eK eM e42 => lwl_step hR.2.1 hb.2.2.2 hz hs e42 eK eM) k
theorem pu_u {v : Int} : ∀ u, PU (some (gm_vi v)) u → u = none ∨ ∃ x, u = some (gm_vi x) := fun u e => Or.inr ⟨v, e⟩
theorem pu_n : ∀ u, PU none u → u = none ∨ ∃ x, u = some (gm_vi x) := fun u e => Or.inl e
theorem om_undo (hb : bg g la K R M) (hg : g < 10000) (hR : MID la K M (ap_undo N A).2.1 lw (ap_undo N A).2.2 im t w f N lw A im t w f) (h : gm_at 369 pc = some (.invokevirtual ix)) (hc : gm_cal (gm_ow 369) ix = some (0, 238)) (hst : (st.map gm_cat).sum ≤ 8) (s0 : ∀ S ∈ l9, ck_Ok p2_O X LX 238 S) (c0 : l9.all w_m = true) (v0 : bc_cov 60 ds (l9.map bc_box) = true) (hx : bc_in ds []) (hbc : 6 ≤ bc) (hbs : 600 ≤ bs) (k : mm_K X LX bc bs (pc + 3) L st Q g M (PU (some (gm_vi (ap_undo N A).1))) none (fun la2 K2 M2 => REL la2 K2 M2 (ap_undo N A).2.1 lw (ap_undo N A).2.2 im t w f)) : gm_Wp X LX 280 bc bs 369 pc L (gm_vr 226 :: st) (245 + 4 * g) K R M Q :=
  mw_m (xs := []) (mj := 238) hb hg hR h hc (by decide +kernel) (by decide +kernel) (show 0 = gm_na 238 by decide +kernel) (show 0 + 1 ≤ gm_ml 238 by decide +kernel) hst s0 c0 v0 hx (fun _ h => nomatch h) hbc hbs pu_u (gm_Wp_mono (fun o n1 K1 R1 M1 hq => rd_rc hq) (rr_undo (e0_w hb (Or.inr (Or.inl ⟨rfl, rfl⟩))) hR.2.1.1 hR.2.1.2.2.1 (rfv_w hR.2.2.2.2))) k
theorem ow_image (hb : bg g la K R M) (hg : g < 10000) (hR : REL la K M N lw A im t w f) (h : gm_at 369 pc = some (.invokevirtual ix)) (hc : gm_cal (gm_ow 369) ix = some (0, 59)) (hst : (st.map gm_cat).sum ≤ 8) (s0 : ∀ S ∈ l0, ck_Ok p2_O X LX 59 S) (s1 : ∀ S ∈ l1, ck_Ok p2_OL X LX 59 S) (c0 : l0.all (w_x p2_O 0 0 1 false) = true) (c1 : l1.all (w_x p2_OL 246 1 1 false) = true) (v0 : bc_cov 60 ds (l0.map bc_box) = true) (v1 : bc_cov 60 ds (l1.map bc_box) = true) (hx : bc_in ds []) (hbc : 6 ≤ bc) (hbs : 600 ≤ bs) (k : mw_K X LX bc bs (pc + 3) L st Q g none none (fun la2 K2 M2 => MID la2 K2 M2 N lw A (some (N, lw)) t w f N lw A im t w f)) : gm_Wp X LX 280 bc bs 369 pc L (gm_vr 1 :: st) (245 + 4 * g) K R M Q :=
  mw_d (xs := []) (mj := 59) (u := none) (ov := none) (RR := fun z g1 R1 M1 => R1 = gm_uR (bs_R z g1) 29 8 (bs_R z g1 3 8) ∧ M1 42 1 = bs_M la M 42 1) hb hg hR (ra_image hR.1) h hc (by decide +kernel) (by decide +kernel) (show 0 = gm_na 59 by decide +kernel) (show 0 + 1 ≤ gm_ml 59 by decide +kernel) hst s0 s1 c0 c1 v0 v1 hx (fun _ h => nomatch h) hbc hbs (Or.inl rfl) (fun z g1 hz hz3 => gm_Wp_mono (fun o n1 K1 R1 M1 hq => dq_cq hq) (ca_image (by decide) (e0_w hb hz) hR.1.1 (clv_w hb hR.2.2.1))) (fun z g1 R1 M1 hz hs => by rw [hs.1]; exact rvR_u (rvR_0 hz) (by decide) (by decide)) (fun z g1 R1 M1 K2 M2 hz hs eK eM e42 => by rw [hs.1]; exact lwl_im hR.2.1 hb.2.2.2 hz (e42.trans (hs.2.trans (vM (by decide)))) eK eM) k
theorem om_image (hb : bg g la K R M) (hg : g < 10000) (hR : MID la K M N lw A (some (N, lw)) t w f N lw A im t w f) (h : gm_at 369 pc = some (.invokevirtual ix)) (hc : gm_cal (gm_ow 369) ix = some (0, 236)) (hst : (st.map gm_cat).sum ≤ 8) (s0 : ∀ S ∈ l9, ck_Ok p2_O X LX 236 S) (c0 : l9.all w_m = true) (v0 : bc_cov 60 ds (l9.map bc_box) = true) (hx : bc_in ds []) (hbc : 6 ≤ bc) (hbs : 600 ≤ bs) (k : mm_K X LX bc bs (pc + 3) L st Q g M (PU none) none (fun la2 K2 M2 => REL la2 K2 M2 N lw A (some (N, lw)) t w f)) : gm_Wp X LX 280 bc bs 369 pc L (gm_vr 226 :: st) (245 + 4 * g) K R M Q :=
  mw_m (xs := []) (mj := 236) hb hg hR h hc (by decide +kernel) (by decide +kernel) (show 0 = gm_na 236 by decide +kernel) (show 0 + 1 ≤ gm_ml 236 by decide +kernel) hst s0 c0 v0 hx (fun _ h => nomatch h) hbc hbs pu_n (gm_Wp_mono (fun o n1 K1 R1 M1 hq => rd_rc hq) (rr_image (e0_w hb (Or.inr (Or.inl ⟨rfl, rfl⟩))) (rfv_w hR.2.2.2.2))) k
theorem ow_back (hb : bg g la K R M) (hg : g < 10000) (hR : REL la K M N lw A im t w f) (h : gm_at 369 pc = some (.invokevirtual ix)) (hc : gm_cal (gm_ow 369) ix = some (0, 60)) (hst : (st.map gm_cat).sum ≤ 8) (s0 : ∀ S ∈ l0, ck_Ok p2_O X LX 60 S) (s1 : ∀ S ∈ l1, ck_Ok p2_OL X LX 60 S) (c0 : l0.all (w_x p2_O 0 0 1 false) = true) (c1 : l1.all (w_x p2_OL 246 1 1 false) = true) (v0 : bc_cov 60 ds (l0.map bc_box) = true) (v1 : bc_cov 60 ds (l1.map bc_box) = true) (hx : bc_in ds []) (hbc : 6 ≤ bc) (hbs : 600 ≤ bs) (k : mw_K X LX bc bs (pc + 3) L st Q g (some (gm_vi (ap_back N lw A im).1)) none (fun la2 K2 M2 => MID la2 K2 M2 (ap_back N lw A im).2.1 (ap_back N lw A im).2.2.1 (ap_back N lw A im).2.2.2 im t w f N lw A im t w f)) : gm_Wp X LX 280 bc bs 369 pc L (gm_vr 1 :: st) (245 + 4 * g) K R M Q := by
  refine mw_d (xs := []) (mj := 60) (u := some (gm_vi (ap_back N lw A im).1)) (ov := none) (RR := fun z g1 R1 M1 => M1 42 1 = bs_M la M 42 1 ∧ ((im = none ∧ R1 = bs_R z g1) ∨ ((∃ q, im = some q) ∧ R1 = gm_uR (bs_R z g1) 3 8 (bs_R z g1 29 8)))) hb hg hR (ra_back hR.1) h hc (by decide +kernel) (by decide +kernel) (show 0 = gm_na 60 by decide +kernel) (show 0 + 1 ≤ gm_ml 60 by decide +kernel) hst s0 s1 c0 c1 v0 v1 hx (fun _ h => nomatch h) hbc hbs (Or.inr ⟨_, rfl⟩) (fun z g1 hz hz3 => gm_Wp_mono (fun o n1 K1 R1 M1 hq => dq_cq hq) (ca_back (by decide) (e0_w hb hz) hR.1.1 (fun NI lI e => (hR.1.2.2.2.1 NI lI e).1) (clv_w hb hR.2.2.1))) (fun z g1 R1 M1 hz hs => ?_) (fun z g1 R1 M1 K2 M2 hz hs eK eM e42 => ?_) k
  · rcases hs.2 with ⟨-, e⟩ | ⟨-, e⟩
    · rw [e]; exact rvR_0 hz
    · rw [e]; exact rvR_u (rvR_0 hz) (by decide) (by decide)
  · rcases hs.2 with ⟨e0, e⟩ | ⟨⟨q, e0⟩, e⟩
    · rw [e]
      have e42 := e42.trans (hs.1.trans (vM (by decide)))
      have hLW := hR.2.1
      subst e0
      exact lwl_e hLW hb.2.2.2 (fun s hs => bg_dcs hz hs) e42 eK eM
    · rw [e]
      have hLW := hR.2.1
      obtain ⟨NI, lI⟩ := q
      subst e0
      exact lwl_bk hLW hb.2.2.2 hz eK eM
theorem om_back (hb : bg g la K R M) (hg : g < 10000) (hR : MID la K M (ap_back N lw A im).2.1 (ap_back N lw A im).2.2.1 (ap_back N lw A im).2.2.2 im t w f N lw A im t w f) (h : gm_at 369 pc = some (.invokevirtual ix)) (hc : gm_cal (gm_ow 369) ix = some (0, 237)) (hst : (st.map gm_cat).sum ≤ 8) (s0 : ∀ S ∈ l9, ck_Ok p2_O X LX 237 S) (c0 : l9.all w_m = true) (v0 : bc_cov 60 ds (l9.map bc_box) = true) (hx : bc_in ds []) (hbc : 6 ≤ bc) (hbs : 600 ≤ bs) (k : mm_K X LX bc bs (pc + 3) L st Q g M (PU (some (gm_vi (ap_back N lw A im).1))) none (fun la2 K2 M2 => REL la2 K2 M2 (ap_back N lw A im).2.1 (ap_back N lw A im).2.2.1 (ap_back N lw A im).2.2.2 im t w f)) : gm_Wp X LX 280 bc bs 369 pc L (gm_vr 226 :: st) (245 + 4 * g) K R M Q :=
  mw_m (xs := []) (mj := 237) hb hg hR h hc (by decide +kernel) (by decide +kernel) (show 0 = gm_na 237 by decide +kernel) (show 0 + 1 ≤ gm_ml 237 by decide +kernel) hst s0 c0 v0 hx (fun _ h => nomatch h) hbc hbs pu_u (gm_Wp_mono (fun o n1 K1 R1 M1 hq => rd_rc hq) (rr_back (by decide) (e0_w hb (Or.inr (Or.inl ⟨rfl, rfl⟩))) (rfv_w hR.2.2.2.2))) k
theorem ow_feed (hb : bg g la K R M) (hg : g < 10000) (hR : REL la K M N lw A im t w f) (h : gm_at 369 pc = some (.invokevirtual ix)) (hc : gm_cal (gm_ow 369) ix = some (0, 19)) (hst : (st.map gm_cat).sum ≤ 8) (s0 : ∀ S ∈ l0, ck_Ok p2_O X LX 19 S) (s1 : ∀ S ∈ l1, ck_Ok p2_OL X LX 19 S) (c0 : l0.all (w_x p2_O 0 0 1 false) = true) (c1 : l1.all (w_x p2_OL 246 1 1 false) = true) (v0 : bc_cov 60 ds (l0.map bc_box) = true) (v1 : bc_cov 60 ds (l1.map bc_box) = true) (hx : bc_in ds [a 0, a 1, a 2, a 3, a 4]) (hi : ∀ j, gm_ir (a j)) (hbc : 6 ≤ bc) (hbs : 600 ≤ bs) (k : mw_K X LX bc bs (pc + 3) L st Q g (some (gm_vi (ap_feed a t f).1)) none (fun la2 K2 M2 => MID la2 K2 M2 N lw A im (ap_feed a t f).2.1 w (ap_feed a t f).2.2 N lw A im t w f)) : gm_Wp X LX 280 bc bs 369 pc L (gm_vi (a 4) :: gm_vi (a 3) :: gm_vi (a 2) :: gm_vi (a 1) :: gm_vi (a 0) :: gm_vr 1 :: st) (245 + 4 * g) K R M Q :=
  mw_d (xs := [a 0, a 1, a 2, a 3, a 4]) (mj := 19) (u := some (gm_vi (ap_feed a t f).1)) (ov := none) (RR := fun z g1 R1 M1 => R1 = bs_R z g1 ∧ M1 42 1 = bs_M la M 42 1) hb hg hR (ra_feed hR.1) h hc (by decide +kernel) (by decide +kernel) (show 5 = gm_na 19 by decide +kernel) (show 5 + 1 ≤ gm_ml 19 by decide +kernel) hst s0 s1 c0 c1 v0 v1 hx (by intro v hv; simp only [List.mem_cons, List.not_mem_nil, or_false] at hv; rcases hv with rfl | rfl | rfl | rfl | rfl <;> exact hi _) hbc hbs (Or.inr ⟨_, rfl⟩) (fun z g1 hz hz3 => gm_Wp_mono (fun o n1 K1 R1 M1 hq => dq_cq hq) (ca_feed (by decide) (e0_w hb hz) hR.1.2.2.2.2.1 (clv_w hb hR.2.2.1))) (fun z g1 R1 M1 hz hs => by rw [hs.1]; exact rvR_0 hz) (fun z g1 R1 M1 K2 M2 hz hs eK eM e42 => by rw [hs.1]; exact lwl_e hR.2.1 hb.2.2.2 (fun s hs => bg_dcs hz hs) (e42.trans (hs.2.trans (vM (by decide)))) eK eM) k
theorem om_feed (hb : bg g la K R M) (hg : g < 10000) (hR : MID la K M N lw A im (ap_feed a t f).2.1 w (ap_feed a t f).2.2 N lw A im t w f) (h : gm_at 369 pc = some (.invokevirtual ix)) (hc : gm_cal (gm_ow 369) ix = some (0, 239)) (hst : (st.map gm_cat).sum ≤ 8) (s0 : ∀ S ∈ l9, ck_Ok p2_O X LX 239 S) (c0 : l9.all w_m = true) (v0 : bc_cov 60 ds (l9.map bc_box) = true) (hx : bc_in ds [a 0, a 1, a 2, a 3, a 4]) (hi : ∀ j, gm_ir (a j)) (hbc : 6 ≤ bc) (hbs : 600 ≤ bs) (k : mm_K X LX bc bs (pc + 3) L st Q g M (PU (some (gm_vi (ap_feed a t f).1))) none (fun la2 K2 M2 => REL la2 K2 M2 N lw A im (ap_feed a t f).2.1 w (ap_feed a t f).2.2)) : gm_Wp X LX 280 bc bs 369 pc L (gm_vi (a 4) :: gm_vi (a 3) :: gm_vi (a 2) :: gm_vi (a 1) :: gm_vi (a 0) :: gm_vr 226 :: st) (245 + 4 * g) K R M Q :=
  mw_m (xs := [a 0, a 1, a 2, a 3, a 4]) (mj := 239) hb hg hR h hc (by decide +kernel) (by decide +kernel) (show 5 = gm_na 239 by decide +kernel) (show 5 + 1 ≤ gm_ml 239 by decide +kernel) hst s0 c0 v0 hx (by intro v hv; simp only [List.mem_cons, List.not_mem_nil, or_false] at hv; rcases hv with rfl | rfl | rfl | rfl | rfl <;> exact hi _) hbc hbs pu_u (gm_Wp_mono (fun o n1 K1 R1 M1 hq => rd_rc hq) (rr_feed (e0_w hb (Or.inr (Or.inl ⟨rfl, rfl⟩))) hR.2.1.2.2.2.2.1 (rfv_w hR.2.2.2.2))) k
end OV18
end
/-! 7c19.ew -/
section
/-! END, FIT, and the calls that only ask, told of the world. -/
section EW19
variable {X : Int → Int} {LX : Nat} {O : gm_Or} {g z g1 n : Nat} {la la2 : Nat → Nat} {K K1 K2 : gm_K} {R R1 R2 : gm_R} {M M1 M2 : gm_M} {L : gm_L} {st : List gm_V} {Q : gm_Q} {N N0 : Int → Int} {lw lw0 : Option (List lln)} {A A0 A' : List (Int → Int)} {im im0 : Option ((Int → Int) × Option (List lln))} {t w t0 w0 x : Int} {f f0 a : Int → Int} {o : gm_O} {n1 bc bs pc ix mj : Nat} {l0 l1 l : List ck_Sum} {ds : List (Int × Int)} {xs : List Int} {S : ck_Sum}
theorem bg_up2 (hb : bg g la K R M) (hF : gm_Fx p2_O (245 + 4 * g) K R M2) (hM : ∀ k j, 246 ≤ k → M2 k j = M k j) : bg g la K R M2 := by
  obtain ⟨h1, -, h3, h4⟩ := hb
  refine ⟨h1, hF, fun j hj => ?_, h4⟩
  have h := h3 j hj
  unfold bg_g at h ⊢
  rw [hM _ _ (by omega), hM _ _ (by omega), hM _ _ (by omega)]
  exact h
theorem fe_s {y : Int} : gm_uM M 1 1 y = fe M y (M 2) := by
  funext b j
  unfold gm_uM fe
  by_cases h1 : b = 1 ∧ j = 1
  · rw [if_pos h1, if_pos h1]
  · rw [if_neg h1, if_neg h1]
    by_cases h2 : b = 2
    · rw [if_pos h2, h2]
    · rw [if_neg h2]
/-- class: the TAPE's length is another -/
theorem clv_t {t2 : Int} (hV : CLV N lw A im t w f M) : CLV N lw A im t2 w f (gm_uM M 1 1 t2) := by
  rw [fe_s]
  exact clv_tape hV hV.2.2.2.2.2
theorem ow_end (hb : bg g la K R M) (hR : REL la K M N lw A im t w f) (h : gm_at 369 pc = some (.invokevirtual ix)) (hc : gm_cal (gm_ow 369) ix = some (0, 21)) (hh : gm_hh 369 = []) (hst : (st.map gm_cat).sum ≤ 8) (hx : gm_ir x) (k : mw_K X LX bc bs (pc + 3) L st Q g (some (gm_vi (ap_end x t).1)) none (fun la2 K2 M2 => MID la2 K2 M2 N lw A im (ap_end x t).2 w f N lw A im t w f)) : gm_Wp X LX 280 bc bs 369 pc L (gm_vi x :: gm_vr 1 :: st) (245 + 4 * g) K R M Q := by
  have hE : E0 (245 + 4 * g) K R := e0F hb.2.1
  have kx := k1_e hE
  have ht := hR.2.2.1.2.2.2.2.1.1
  have hb4 := hR.1.2.2.2.2.1
  have no : ap_end x t = (0, t) → gm_Wp X LX 280 (bc - 0) (bs - 0) 369 (pc + 3) L (gm_vi 0 :: st) (245 + 4 * g) K R M Q := fun er => by
    rw [er] at k
    exact gm_Wp_wk (Nat.le_refl _) (by omega) (by omega) (k la K R M hb ⟨hR.1, hR.1, hR.2⟩ (fun v e => nomatch e))
  refine gm_c_virt (k := 1) (ci := 0) (mj := 21) (as := [gm_vi x]) (st := st) (d' := 1) (bc' := 0) (bs' := 0) h hc (by decide +kernel) hh kx.1 kx.2 (by decide) (by decide +kernel) (show 1 = gm_na 21 by decide +kernel) (fw_c1 (by simp [gm_sort])) (show 1 + 1 ≤ gm_ml 21 by decide +kernel) hst (by decide) (Nat.zero_le _) (Nat.zero_le _) ?_
  refine ce_21 hE hx (by rw [ht]; exact ⟨by omega, by omega⟩) (fun h => no (tif_t (Or.inl h))) (fun h1 h2 => ?_) (fun h1 h2 => no (tif_t (Or.inr (by omega))))
  rw [ht] at h2
  have er : ap_end x t = (1, x) := tif_f (by omega)
  have hra := ra_end (x := x) hR.1
  rw [er] at k hra
  show gm_Wp X LX 280 (bc - 0) (bs - 0) 369 (pc + 3) L (gm_vi 1 :: st) (245 + 4 * g) K R (gm_uM M 1 1 x) Q
  exact gm_Wp_wk (Nat.le_refl _) (by omega) (by omega) (k la K R _ (bg_up2 hb (gm_Fx_M hb.2.1 (show gm_tyw p2_O 1 1 1 0 400 = true by decide +kernel) (Int.le_refl 1) (Int.le_refl 1) (by omega) (show x ≤ (400 : Int) by omega)) (fun k j hk => uM_ne (by omega))) ⟨hra, hR.1, lwl_e hR.2.1 hb.2.2.2 (fun _ _ => rfl) (uM_ne (by decide)) (fun _ _ _ => rfl) (fun k j k1 _ => uM_ne (by omega)), clv_t hR.2.2.1, rfv_e hR.2.2.2 (fun k j hk => uM_ne (by have := rk_le hk; omega))⟩ (fun v e => nomatch e))
theorem om_end (hb : bg g la K R M) (hR : MID la K M N lw A im (ap_end x t).2 w f N lw A im t w f) (h : gm_at 369 pc = some (.invokevirtual ix)) (hc : gm_cal (gm_ow 369) ix = some (0, 240)) (hh : gm_hh 369 = []) (hst : (st.map gm_cat).sum ≤ 8) (hx : gm_ir x) (k : mm_K X LX bc bs (pc + 3) L st Q g M (PU (some (gm_vi (ap_end x t).1))) none (fun la2 K2 M2 => REL la2 K2 M2 N lw A im (ap_end x t).2 w f)) : gm_Wp X LX 280 bc bs 369 pc L (gm_vi x :: gm_vr 226 :: st) (245 + 4 * g) K R M Q := by
  have hE : E0 (245 + 4 * g) K R := e0F hb.2.1
  have kx : (1 ≤ 226 ∧ 226 ≤ 245 + 4 * g) ∧ (K 226).1 = 11 + 4 := e0k hE (k := 226) (c := 11) (by decide +kernel)
  obtain ⟨hra, hra0, hL, hC, hV⟩ := hR
  have ht := hV.2.2.2.1.1
  have hb4 := hra0.2.2.2.2.1
  have F1 := gm_Fx_M hb.2.1 (show gm_tyw p2_O 226 0 0 0 0 = true by decide +kernel) (Int.le_refl 0) (Int.le_refl 0) (Int.le_refl 0) (Int.le_refl 0)
  have s0 : RFV N lw A im t w f (gm_uM M 226 0 0) := rfv_fr hV (W := [(226, some 0)]) (fr_p fr_0 (Or.inr (by decide))) (by decide)
  have go : ∀ {M2 : gm_M}, gm_Fx p2_O (245 + 4 * g) K R M2 → (∀ k j, ¬ k = 226 → M2 k j = M k j) → RFV N lw A im (ap_end x t).2 w f M2 → gm_Wp X LX 280 (bc - 0) (bs - 0) 369 (pc + 3) L (gm_vi (ap_end x t).1 :: st) (245 + 4 * g) K R M2 Q := fun {M2} hF e hV2 =>
    gm_Wp_wk (Nat.le_refl _) (by omega) (by omega) (k _ la K R _ rfl (bg_up2 hb hF (fun k j hk => e k j (by omega))) ⟨hra, lwl_e hL hb.2.2.2 (fun _ _ => rfl) (e 42 1 (by decide)) (fun _ _ _ => rfl) (fun k j k1 _ => e k j (by omega)), clv_e hC (cstF hF) (fun k j hk => e k j (by have := ck_le hk; omega)), hV2⟩ (e 245 0 (by decide)) (fun c e => nomatch e))
  refine gm_c_virt (k := 226) (ci := 11) (mj := 240) (as := [gm_vi x]) (st := st) (d' := 1) (bc' := 0) (bs' := 0) h hc (by decide +kernel) hh kx.1 kx.2 (by decide) (by decide +kernel) (show 1 = gm_na 240 by decide +kernel) (fw_c1 (by simp [gm_sort])) (show 1 + 1 ≤ gm_ml 240 by decide +kernel) hst (by decide) (Nat.zero_le _) (Nat.zero_le _) ?_
  refine re_240 hE hx (by rw [ht]; exact ⟨by omega, by omega⟩) (fun h => ?_) (fun h1 h2 => ?_) (fun h1 h2 => ?_)
  · have er : ap_end x t = (0, t) := tif_t (Or.inl h)
    rw [er] at go
    exact go F1 (fun k j hk => uM_ne (by omega)) s0
  · rw [ht] at h2
    have er : ap_end x t = (1, x) := tif_f (by omega)
    rw [er] at go
    exact go (gm_Fx_M F1 (show gm_tyw p2_O 226 8 8 0 400 = true by decide +kernel) (Int.le_refl 8) (Int.le_refl 8) (by omega) (show x ≤ (400 : Int) by omega)) (fun k j hk => (uM_ne (by omega)).trans (uM_ne (by omega))) (rfv_tape s0 uM_at (fun j j0 j1 => (uM_ne (by omega)).trans (s0.2.2.2.2 j j0 j1)) (fun k j h1 h2 h3 => uM_ne h3))
  · rw [ht] at h2
    have er : ap_end x t = (0, t) := tif_t (Or.inr (by omega))
    rw [er] at go
    exact go F1 (fun k j hk => uM_ne (by omega)) s0
/-- a cell that is told of the class, of the reference -/
def cKb (w : Nat × Int × Int) : Bool := decide ((w.1 = 1 ∧ (w.2.1 ≤ 15 ∧ 1 ≤ w.2.2)) ∨ (2 ≤ w.1 ∧ w.1 ≤ 15) ∨ (29 ≤ w.1 ∧ w.1 ≤ 199) ∨ (w.1 = 200 ∧ (w.2.1 ≤ 6 ∧ 6 ≤ w.2.2)) ∨ (201 ≤ w.1 ∧ w.1 ≤ 203) ∨ w.1 = 205 ∨ w.1 = 220 ∨ w.1 = 221)
def rKb (w : Nat × Int × Int) : Bool := decide (w.1 = 227 ∨ w.1 = 228 ∨ w.1 = 230 ∨ w.1 = 231 ∨ w.1 = 234 ∨ w.1 = 235 ∨ (w.1 = 226 ∧ ((w.2.1 ≤ 5 ∧ 5 ≤ w.2.2) ∨ (w.2.1 ≤ 6 ∧ 6 ≤ w.2.2) ∨ (w.2.1 ≤ 8 ∧ 8 ≤ w.2.2) ∨ (w.2.1 ≤ 13 ∧ 13 ≤ w.2.2) ∨ (w.2.1 ≤ 26 ∧ 26 ≤ w.2.2))))
theorem cKb_s {w : Nat × Int × Int} {k : Nat} {j : Int} (h : cK k j) (h1 : w.1 = k ∧ w.2.1 ≤ j ∧ j ≤ w.2.2) : cKb w = true := by
  unfold cK at h
  exact decide_eq_true (by omega)
theorem rKb_s {w : Nat × Int × Int} {k : Nat} {j : Int} (h : rK k j) (h1 : w.1 = k ∧ w.2.1 ≤ j ∧ j ≤ w.2.2) : rKb w = true := by
  unfold rK at h
  exact decide_eq_true (by omega)
/-- rows that write nothing that is told -/
noncomputable def w_q (O : gm_Or) (z g1 k1 : Nat) (t : Bool) (S : ck_Sum) : Bool := bc_ok O z g1 S && (bc_args S k1 t && (decide (S.1.1 + 1 ≤ 280 ∧ S.1.2.1 ≤ 6 ∧ S.1.2.2 ≤ 600) && (S.2.2.2.2.1.2.isEmpty && S.2.2.2.2.1.1.all fun w => !cKb w && !rKb w)))
/-- behind a call that only asks: what is told is as it was -/
def mq_K (X : Int → Int) (LX bc bs pc : Nat) (L : gm_L) (st : List gm_V) (Q : gm_Q) (g : Nat) (P : (Nat → Nat) → gm_K → gm_M → Prop) (V : Option gm_V → gm_M → Prop) : Prop := ∀ (u : Option gm_V) (la2 : Nat → Nat) (K2 : gm_K) (R2 : gm_R) (M2 : gm_M), V u M2 → bg g la2 K2 R2 M2 → P la2 K2 M2 → gm_Wp X LX 280 (bc - 6) (bs - 600) 369 pc L (u.toList ++ st) (245 + 4 * g) K2 R2 M2 Q
/-- what a row tells of the answer -/
def mq_V (S : ck_Sum) (u : Option gm_V) : Prop := ∃ oc ∈ S.2.2.2.2.2, ∃ σ : Nat → Int, ck_ho σ oc.1 (.inl u)
theorem wq_s {k1 : Nat} {tt : Bool} {O : gm_Or} (hb : bg g la K R M) (hz : bs_ok la z g1) (hck : w_q O z g1 k1 tt S = true) (hR : REL la K M N lw A im t w f) (hbc : 6 ≤ bc) (hbs : 600 ≤ bs) (k : mq_K X LX bc bs pc L st Q g (fun la2 K2 M2 => REL la2 K2 M2 N lw A im t w f) (fun u _ => mq_V S u)) : bc_KX X LX 280 (bc - S.1.2.1) (bs - S.1.2.2) 369 pc L st Q O z g1 g la K M S := by
  simp only [w_q, Bool.and_eq_true, decide_eq_true_eq, List.isEmpty_iff] at hck
  obtain ⟨-, -, hbd, hR2, hW⟩ := hck
  intro oc hoc σ u n' K' R' M' _ ho _ hF hfr hb2
  have eR : ∀ k j, k ≤ 245 + 4 * g1 → R' k j = bs_R z g1 k j := fun k j hk => hfr.2.2.2 k j hk (by rw [hR2]; exact fun h => nomatch h)
  have e : ∀ k j, k ≤ 245 → (cK k j ∨ rK k j) → bg_M g M M' k j = M k j := fun k j hk h => by
    rw [bg_Ms hk, hfr.2.2.1 k j (by omega) (fun w hw hh => ?_), vM hk]
    have := List.all_eq_true.mp hW w hw
    simp only [Bool.and_eq_true, Bool.not_eq_true'] at this
    rcases h with h | h
    · rw [cKb_s h hh] at this; exact absurd this.1 (by decide)
    · rw [rKb_s h hh] at this; exact absurd this.2 (by decide)
  refine gm_Wp_wk (Nat.le_refl _) (by omega) (by omega) (k u _ _ _ _ ⟨oc, hoc, σ, ho⟩ hb2 ⟨hR.1, lwl_e hR.2.1 hb.2.2.2 (fun s hs => ?_) (e 42 1 (by decide) (Or.inl (by unfold cK; omega))) (fun k k1 k2 => bg_Ks k2) (fun k j k1 k2 => bg_oldM k1 k2), clv_e hR.2.2.1 (cstF hb2.2.1) (fun k j hk => e k j (by have := ck_le hk; omega) (Or.inl hk)), rfv_e hR.2.2.2 (fun k j hk => e k j (by have := rk_le hk; omega) (Or.inr hk))⟩)
  show bg_dc la g 0 (R' s 8) = la s
  rw [eR s 8 (by have := bg_ssl hs; omega)]
  exact bg_dcs hz hs
end EW19
end
