/-! END: of both. -/
section EN7
variable {X : Int → Int} {LX d bc bs n : Nat} {K : gm_K} {R : gm_R} {M : gm_M} {Q : gm_Q} {x : Int}
theorem ce_21 (hE : E0 n K R) (hx : gm_ir x) (ht : gm_ir (M 1 1)) (q0 : x < 0 → Q (.inl (some (gm_vi 0))) n K R (M)) (q1 : ¬ x < 0 → x ≤ (M 1 1) → Q (.inl (some (gm_vi 1))) n K R (gm_uM M 1 1 x)) (q2 : ¬ x < 0 → ¬ x ≤ (M 1 1) → Q (.inl (some (gm_vi 0))) n K R (M)) : gm_Wp X LX d bc bs 21 0 (gm_ent 21 [gm_vr 1, gm_vi x]) [] n K R M Q := by
  refine gm_sz (gm_p_load (pc := 0) (i := .iload_n 1) (sr := 0) (j := 1) (by decide +kernel) rfl rfl rfl) ?_
  refine fw_if (cc := .lt) (pc := 1) (off := 11) (by decide +kernel) (by decide) hx (fun h1 => ?_) (fun h1 => ?_)
  · have h1 : x < 0 := h1
    refine gm_sz (gm_p_const (pc := 12) (i := .iconst 0) (v := gm_vi 0) (by decide +kernel) (by decide +kernel)) ?_
    exact gm_r_int (pc := 13) (by decide +kernel) (Or.inr ⟨(by decide +kernel), Or.inl rfl⟩) (q0 h1)
  · have h1 : ¬ x < 0 := h1
    refine gm_sz (gm_p_load (pc := 4) (i := .iload_n 1) (sr := 0) (j := 1) (by decide +kernel) rfl rfl rfl) ?_
    refine gm_sz (gm_p_load (pc := 5) (i := .aload_n 0) (sr := 2) (j := 0) (by decide +kernel) rfl rfl rfl) ?_
    refine gm_sz (fw_gi (pc := 6) (ix := 13) (ci := 0) (j := 1) (x := M 1 1) (by decide +kernel) (e0k hE (k := 1) (c := 0) (by decide +kernel)) (by decide +kernel) (by decide +kernel) rfl) ?_
    refine fw_ic (cc := .le) (pc := 9) (off := 5) (by decide +kernel) (by decide) hx ht (fun h9 => ?_) (fun h9 => ?_)
    · have h9 : x ≤ (M 1 1) := h9
      refine gm_sz (gm_p_load (pc := 14) (i := .aload_n 0) (sr := 2) (j := 0) (by decide +kernel) rfl rfl rfl) ?_
      refine gm_sz (gm_p_load (pc := 15) (i := .iload_n 1) (sr := 0) (j := 1) (by decide +kernel) rfl rfl rfl) ?_
      refine gm_sz (fw_pi (pc := 16) (ix := 13) (ci := 0) (j := 1) (M' := gm_uM M 1 1 x) (by decide +kernel) (e0k hE (k := 1) (c := 0) (by decide +kernel)) (by decide +kernel) (by decide +kernel) (by decide +kernel) rfl) ?_
      refine gm_sz (gm_p_const (pc := 19) (i := .iconst 1) (v := gm_vi 1) (by decide +kernel) (by decide +kernel)) ?_
      exact gm_r_int (pc := 20) (by decide +kernel) (Or.inr ⟨(by decide +kernel), Or.inr rfl⟩) (q1 h1 h9)
    · have h9 : ¬ x ≤ (M 1 1) := h9
      refine gm_sz (gm_p_const (pc := 12) (i := .iconst 0) (v := gm_vi 0) (by decide +kernel) (by decide +kernel)) ?_
      exact gm_r_int (pc := 13) (by decide +kernel) (Or.inr ⟨(by decide +kernel), Or.inl rfl⟩) (q2 h1 h9)
theorem re_240 (hE : E0 n K R) (hx : gm_ir x) (ht : gm_ir (M 226 8)) (q0 : x < 0 → Q (.inl (some (gm_vi 0))) n K R (gm_uM M 226 0 0)) (q1 : ¬ x < 0 → x ≤ (M 226 8) → Q (.inl (some (gm_vi 1))) n K R (gm_uM (gm_uM M 226 0 0) 226 8 x)) (q2 : ¬ x < 0 → ¬ x ≤ (M 226 8) → Q (.inl (some (gm_vi 0))) n K R (gm_uM M 226 0 0)) : gm_Wp X LX d bc bs 240 0 (gm_ent 240 [gm_vr 226, gm_vi x]) [] n K R M Q := by
  refine gm_sz (gm_p_load (pc := 0) (i := .aload_n 0) (sr := 2) (j := 0) (by decide +kernel) rfl rfl rfl) ?_
  refine gm_sz (gm_p_const (pc := 1) (i := .iconst 0) (v := gm_vi 0) (by decide +kernel) (by decide +kernel)) ?_
  refine gm_sz (fw_pi (pc := 2) (ix := 3) (ci := 11) (j := 0) (M' := gm_uM M 226 0 0) (by decide +kernel) (e0k hE (k := 226) (c := 11) (by decide +kernel)) (by decide +kernel) (by decide +kernel) (by decide +kernel) rfl) ?_
  refine gm_sz (gm_p_load (pc := 5) (i := .iload_n 1) (sr := 0) (j := 1) (by decide +kernel) rfl rfl rfl) ?_
  refine fw_if (cc := .lt) (pc := 6) (off := 11) (by decide +kernel) (by decide) hx (fun h6 => ?_) (fun h6 => ?_)
  · have h6 : x < 0 := h6
    refine gm_sz (gm_p_const (pc := 17) (i := .iconst 0) (v := gm_vi 0) (by decide +kernel) (by decide +kernel)) ?_
    exact gm_r_int (pc := 18) (by decide +kernel) (Or.inr ⟨(by decide +kernel), Or.inl rfl⟩) (q0 h6)
  · have h6 : ¬ x < 0 := h6
    refine gm_sz (gm_p_load (pc := 9) (i := .iload_n 1) (sr := 0) (j := 1) (by decide +kernel) rfl rfl rfl) ?_
    refine gm_sz (gm_p_load (pc := 10) (i := .aload_n 0) (sr := 2) (j := 0) (by decide +kernel) rfl rfl rfl) ?_
    refine gm_sz (fw_gi (pc := 11) (ix := 103) (ci := 11) (j := 8) (x := M 226 8) (by decide +kernel) (e0k hE (k := 226) (c := 11) (by decide +kernel)) (by decide +kernel) (by decide +kernel) (uM_ne (by omega))) ?_
    refine fw_ic (cc := .le) (pc := 14) (off := 5) (by decide +kernel) (by decide) hx ht (fun h14 => ?_) (fun h14 => ?_)
    · have h14 : x ≤ (M 226 8) := h14
      refine gm_sz (gm_p_load (pc := 19) (i := .aload_n 0) (sr := 2) (j := 0) (by decide +kernel) rfl rfl rfl) ?_
      refine gm_sz (gm_p_load (pc := 20) (i := .iload_n 1) (sr := 0) (j := 1) (by decide +kernel) rfl rfl rfl) ?_
      refine gm_sz (fw_pi (pc := 21) (ix := 103) (ci := 11) (j := 8) (M' := gm_uM (gm_uM M 226 0 0) 226 8 x) (by decide +kernel) (e0k hE (k := 226) (c := 11) (by decide +kernel)) (by decide +kernel) (by decide +kernel) (by decide +kernel) rfl) ?_
      refine gm_sz (gm_p_const (pc := 24) (i := .iconst 1) (v := gm_vi 1) (by decide +kernel) (by decide +kernel)) ?_
      exact gm_r_int (pc := 25) (by decide +kernel) (Or.inr ⟨(by decide +kernel), Or.inr rfl⟩) (q1 h6 h14)
    · have h14 : ¬ x ≤ (M 226 8) := h14
      refine gm_sz (gm_p_const (pc := 17) (i := .iconst 0) (v := gm_vi 0) (by decide +kernel) (by decide +kernel)) ?_
      exact gm_r_int (pc := 18) (by decide +kernel) (Or.inr ⟨(by decide +kernel), Or.inl rfl⟩) (q2 h6 h14)
end EN7
