/-! RUNS of the travellers under a law: FLOWs that are kept stay right. -/
section RU27
variable {X : Int → Int} {LX d : Nat} {K K0 : gm_K} {R R0 : gm_R} {M M0 : gm_M} {Q : gm_Q} {i last : Int}
/-- where a traveller stands: a LANE, a ROW, a YEAR that may be, or none -/
noncomputable def SPc (c : Nat) (i : Int) (M : gm_M) : Prop := (((0 ≤ M c 2 ∧ M c 2 ≤ 6) ∧ 0 ≤ M c 5 ∧ 0 ≤ i) ∨ (M c 2 = -1 ∧ -1 ≤ M c 5 ∧ -1 ≤ i)) ∧ M c 5 ≤ 300 ∧ M c 7 = i
theorem spc_b {c : Nat} (h : SPc c i M) : (-1 ≤ M c 5 ∧ M c 5 ≤ 300) ∧ -1 ≤ i := by unfold SPc at h; omega
theorem q31_206_c (hF : gm_Fx qL_O 249 K R M) (h5 : -1 ≤ M 206 5 ∧ M 206 5 ≤ 300) (q : ∀ v K2 R2 M2, v = 0 ∨ v = 1 → gm_Fx qL_O 249 K2 R2 M2 → ck_fr ([], []) 249 K R M 249 K2 R2 M2 → Q (.inl (some (gm_vi v))) 249 K2 R2 M2) : gm_Wp X LX d 0 0 31 0 (gm_ent 31 [gm_vr 206]) [] 249 K R M Q := by
  have hσ := ck_sn_s (σ := fun _ => 0) (M := M) qL_nmu
  refine gm_Wp_mono (fun o n' K' R' M' hq => ?_) (q31n_206_s d (ck_sn qL_O (fun _ => 0) M) [gm_vr 206] 249 K R M (Nat.zero_le _) rfl ⟨_, _, rfl, rfl, rfl⟩ hσ hF ⟨(fun _ h => nomatch h), (fun _ h => nomatch h), fun q hq => ?_⟩)
  · obtain ⟨hF2, hfr, oc, hoc, ho, hn, -⟩ := hq
    have hoc : oc ∈ [_, _] := hoc
    simp only [List.mem_cons, List.not_mem_nil, or_false] at hoc
    rcases hoc with rfl | rfl
    · have hn : n' = 249 := hn
      subst hn
      rcases o with (_ | v) | x
      · exact absurd ho id
      · obtain ⟨y, rfl, -, y0, y1, -⟩ := ho
        exact q y _ _ _ (Or.inl (Int.le_antisymm y1 y0)) hF2 hfr
      · exact absurd ho id
    · have hn : n' = 249 := hn
      subst hn
      rcases o with (_ | v) | x
      · exact absurd ho id
      · obtain ⟨y, rfl, -, y0, y1, -⟩ := ho
        exact q y _ _ _ (Or.inr (Int.le_antisymm y1 y0)) hF2 hfr
      · exact absurd ho id
  · rw [List.mem_singleton.mp hq]
    refine ⟨by show 206 ≤ 249; decide, fun j j1 j2 => ?_⟩
    have ej : j = 5 := Int.le_antisymm j2 j1
    subst ej
    exact ⟨(show gm_ir (M 206 5) from ⟨by omega, by omega⟩), h5.1, h5.2, fun _ h => nomatch h⟩
noncomputable def q32_206_W : List (Nat × Int × Int) × List (Nat × Int) := ([(200, 6, 6), (204, 0, 9), (205, 0, 14849), (206, 5, 8)], [])
theorem q32a_206_c (hS : ck_Ok qL_O X LX 32 q32_206) (hd : 13 ≤ d) (hF : gm_Fx qL_O 249 K R M) (h8 : R 3 8 = 246) (s2 : 0 ≤ M 206 2 ∧ M 206 2 ≤ 6) (s5 : 0 ≤ M 206 5 ∧ M 206 5 ≤ 300) (s7 : M 206 7 = i) (hi : 0 ≤ i ∧ i ≤ 299) (q : ∀ K2 R2 M2, gm_Fx qL_O 249 K2 R2 M2 → ck_fr q32_206_W 249 K R M 249 K2 R2 M2 → M2 206 2 = M 206 2 → (0 ≤ M2 206 5 ∧ M2 206 5 ≤ 300) → M2 206 7 = i + 1 → Q (.inl none) 249 K2 R2 M2) : gm_Wp X LX d 0 0 32 0 (gm_ent 32 [gm_vr 206]) [] 249 K R M Q := by
  have hσ := ck_sn_s (σ := fun _ => 0) (M := M) qL_nmu
  have hnm : ck_sn qL_O (fun _ => 0) M 28 = M 206 7 := hσ (28, 206, 7) (by decide)
  refine gm_Wp_mono (fun o n' K' R' M' hq => ?_) (hS d (ck_sn qL_O (fun _ => 0) M) [gm_vr 206] 249 K R M hd rfl ⟨_, _, rfl, rfl, rfl⟩ hσ hF ⟨(fun _ h => nomatch h), fun q hq => ?_, fun q hq => ?_⟩)
  · obtain ⟨hF2, hfr, oc, hoc, ho, hn, hf⟩ := hq
    have hoc := List.mem_singleton.mp hoc
    subst hoc
    have hn : n' = 249 := hn
    subst hn
    rcases o with (_ | v) | x
    · have f5 := ((hf.2.2 (206, 5, 5, (0, 300, [])) List.mem_cons_self).2 5 (Int.le_refl _) (Int.le_refl _)).2
      have f7 := ((hf.2.2 (206, 7, 7, (1, 300, [(28, 1)])) (List.mem_cons_of_mem _ List.mem_cons_self)).2 7 (Int.le_refl _) (Int.le_refl _)).2.2.2
      have e7 : M' 206 7 = ck_sn qL_O (fun _ => 0) M 28 + 1 := (f7 (28, 1) List.mem_cons_self).1 (by decide)
      have e2 : M' 206 2 = M 206 2 := hfr.2.2.1 206 2 (by decide) (fun w hw hh => absurd hh (of_decide_eq_true (List.all_eq_true.mp (show q32_206_W.1.all (fun w => decide (¬ (w.1 = 206 ∧ w.2.1 ≤ 2 ∧ 2 ≤ w.2.2))) = true by decide) w hw)))
      exact q _ _ _ hF2 hfr e2 ⟨f5.1, f5.2.1⟩ (by rw [e7, hnm, s7])
    · exact absurd ho id
    · exact absurd ho id
  · rw [List.mem_singleton.mp hq]
    exact ⟨by show 3 ≤ 249; decide, h8⟩
  · simp only [List.mem_cons, List.not_mem_nil, or_false, q32_206] at hq
    rcases hq with rfl | rfl | rfl
    · refine ⟨by show 206 ≤ 249; decide, fun j j1 j2 => ?_⟩
      have ej : j = 2 := Int.le_antisymm j2 j1
      subst ej
      exact ⟨(show gm_ir (M 206 2) from ⟨by omega, by omega⟩), s2.1, s2.2, fun _ h => nomatch h⟩
    · refine ⟨by show 206 ≤ 249; decide, fun j j1 j2 => ?_⟩
      have ej : j = 5 := Int.le_antisymm j2 j1
      subst ej
      exact ⟨(show gm_ir (M 206 5) from ⟨by omega, by omega⟩), s5.1, s5.2, fun _ h => nomatch h⟩
    · refine ⟨by show 206 ≤ 249; decide, fun j j1 j2 => ?_⟩
      have ej : j = 7 := Int.le_antisymm j2 j1
      subst ej
      exact ⟨(show gm_ir (M 206 7) from ⟨by omega, by omega⟩), (show 0 ≤ M 206 7 by omega), (show M 206 7 ≤ 299 by omega), ck_gt1 (s := 28) (z := 0) (by decide) (by rw [hnm, Int.add_zero])⟩
theorem q32b_206_c (hS : ck_Ok qL_O X LX 32 q32n_206) (hd : 13 ≤ d) (hF : gm_Fx qL_O 249 K R M) (h8 : R 3 8 = 246) (s2 : -1 ≤ M 206 2 ∧ M 206 2 ≤ -1) (s5 : -1 ≤ M 206 5 ∧ M 206 5 ≤ 300) (s7 : M 206 7 = i) (hi : 0 ≤ i ∧ i ≤ 299) (q : ∀ K2 R2 M2, gm_Fx qL_O 249 K2 R2 M2 → ck_fr q32_206_W 249 K R M 249 K2 R2 M2 → M2 206 2 = M 206 2 → (-1 ≤ M2 206 5 ∧ M2 206 5 ≤ 300) → M2 206 7 = i + 1 → Q (.inl none) 249 K2 R2 M2) : gm_Wp X LX d 0 0 32 0 (gm_ent 32 [gm_vr 206]) [] 249 K R M Q := by
  have hσ := ck_sn_s (σ := fun _ => 0) (M := M) qL_nmu
  have hnm : ck_sn qL_O (fun _ => 0) M 28 = M 206 7 := hσ (28, 206, 7) (by decide)
  refine gm_Wp_mono (fun o n' K' R' M' hq => ?_) (hS d (ck_sn qL_O (fun _ => 0) M) [gm_vr 206] 249 K R M hd rfl ⟨_, _, rfl, rfl, rfl⟩ hσ hF ⟨(fun _ h => nomatch h), fun q hq => ?_, fun q hq => ?_⟩)
  · obtain ⟨hF2, hfr, oc, hoc, ho, hn, hf⟩ := hq
    have hoc := List.mem_singleton.mp hoc
    subst hoc
    have hn : n' = 249 := hn
    subst hn
    rcases o with (_ | v) | x
    · have f5 := ((hf.2.2 (206, 5, 5, ((-1), 300, [])) List.mem_cons_self).2 5 (Int.le_refl _) (Int.le_refl _)).2
      have f7 := ((hf.2.2 (206, 7, 7, (1, 300, [(28, 1)])) (List.mem_cons_of_mem _ List.mem_cons_self)).2 7 (Int.le_refl _) (Int.le_refl _)).2.2.2
      have e7 : M' 206 7 = ck_sn qL_O (fun _ => 0) M 28 + 1 := (f7 (28, 1) List.mem_cons_self).1 (by decide)
      have e2 : M' 206 2 = M 206 2 := hfr.2.2.1 206 2 (by decide) (fun w hw hh => absurd hh (of_decide_eq_true (List.all_eq_true.mp (show q32_206_W.1.all (fun w => decide (¬ (w.1 = 206 ∧ w.2.1 ≤ 2 ∧ 2 ≤ w.2.2))) = true by decide) w hw)))
      exact q _ _ _ hF2 hfr e2 ⟨f5.1, f5.2.1⟩ (by rw [e7, hnm, s7])
    · exact absurd ho id
    · exact absurd ho id
  · rw [List.mem_singleton.mp hq]
    exact ⟨by show 3 ≤ 249; decide, h8⟩
  · simp only [List.mem_cons, List.not_mem_nil, or_false, q32n_206] at hq
    rcases hq with rfl | rfl | rfl
    · refine ⟨by show 206 ≤ 249; decide, fun j j1 j2 => ?_⟩
      have ej : j = 2 := Int.le_antisymm j2 j1
      subst ej
      exact ⟨(show gm_ir (M 206 2) from ⟨by omega, by omega⟩), s2.1, s2.2, fun _ h => nomatch h⟩
    · refine ⟨by show 206 ≤ 249; decide, fun j j1 j2 => ?_⟩
      have ej : j = 5 := Int.le_antisymm j2 j1
      subst ej
      exact ⟨(show gm_ir (M 206 5) from ⟨by omega, by omega⟩), s5.1, s5.2, fun _ h => nomatch h⟩
    · refine ⟨by show 206 ≤ 249; decide, fun j j1 j2 => ?_⟩
      have ej : j = 7 := Int.le_antisymm j2 j1
      subst ej
      exact ⟨(show gm_ir (M 206 7) from ⟨by omega, by omega⟩), (show 0 ≤ M 206 7 by omega), (show M 206 7 ≤ 299 by omega), ck_gt1 (s := 28) (z := 0) (by decide) (by rw [hnm, Int.add_zero])⟩
theorem q32d_206_c (hS : ck_Ok qL_O X LX 32 q32m_206) (hd : 13 ≤ d) (hF : gm_Fx qL_O 249 K R M) (h8 : R 3 8 = 246) (s2 : -1 ≤ M 206 2 ∧ M 206 2 ≤ -1) (s5 : -1 ≤ M 206 5 ∧ M 206 5 ≤ 300) (s7 : M 206 7 = i) (hi : -1 ≤ i ∧ i ≤ -1) (q : ∀ K2 R2 M2, gm_Fx qL_O 249 K2 R2 M2 → ck_fr q32_206_W 249 K R M 249 K2 R2 M2 → M2 206 2 = M 206 2 → (-1 ≤ M2 206 5 ∧ M2 206 5 ≤ 300) → M2 206 7 = i + 1 → Q (.inl none) 249 K2 R2 M2) : gm_Wp X LX d 0 0 32 0 (gm_ent 32 [gm_vr 206]) [] 249 K R M Q := by
  have hσ := ck_sn_s (σ := fun _ => 0) (M := M) qL_nmu
  refine gm_Wp_mono (fun o n' K' R' M' hq => ?_) (hS d (ck_sn qL_O (fun _ => 0) M) [gm_vr 206] 249 K R M hd rfl ⟨_, _, rfl, rfl, rfl⟩ hσ hF ⟨(fun _ h => nomatch h), fun q hq => ?_, fun q hq => ?_⟩)
  · obtain ⟨hF2, hfr, oc, hoc, ho, hn, hf⟩ := hq
    have hoc := List.mem_singleton.mp hoc
    subst hoc
    have hn : n' = 249 := hn
    subst hn
    rcases o with (_ | v) | x
    · have f5 := ((hf.2.2 (206, 5, 5, ((-1), 300, [])) List.mem_cons_self).2 5 (Int.le_refl _) (Int.le_refl _)).2
      have f7 := ((hf.2.2 (206, 7, 7, (0, 0, [])) (List.mem_cons_of_mem _ List.mem_cons_self)).2 7 (Int.le_refl _) (Int.le_refl _)).2
      have e7 : M' 206 7 = 0 := Int.le_antisymm f7.2.1 f7.1
      have e2 : M' 206 2 = M 206 2 := hfr.2.2.1 206 2 (by decide) (fun w hw hh => absurd hh (of_decide_eq_true (List.all_eq_true.mp (show q32_206_W.1.all (fun w => decide (¬ (w.1 = 206 ∧ w.2.1 ≤ 2 ∧ 2 ≤ w.2.2))) = true by decide) w hw)))
      exact q _ _ _ hF2 hfr e2 ⟨f5.1, f5.2.1⟩ (by rw [e7]; omega)
    · exact absurd ho id
    · exact absurd ho id
  · rw [List.mem_singleton.mp hq]
    exact ⟨by show 3 ≤ 249; decide, h8⟩
  · simp only [List.mem_cons, List.not_mem_nil, or_false, q32m_206] at hq
    rcases hq with rfl | rfl | rfl
    · refine ⟨by show 206 ≤ 249; decide, fun j j1 j2 => ?_⟩
      have ej : j = 2 := Int.le_antisymm j2 j1
      subst ej
      exact ⟨(show gm_ir (M 206 2) from ⟨by omega, by omega⟩), s2.1, s2.2, fun _ h => nomatch h⟩
    · refine ⟨by show 206 ≤ 249; decide, fun j j1 j2 => ?_⟩
      have ej : j = 5 := Int.le_antisymm j2 j1
      subst ej
      exact ⟨(show gm_ir (M 206 5) from ⟨by omega, by omega⟩), s5.1, s5.2, fun _ h => nomatch h⟩
    · refine ⟨by show 206 ≤ 249; decide, fun j j1 j2 => ?_⟩
      have ej : j = 7 := Int.le_antisymm j2 j1
      subst ej
      exact ⟨(show gm_ir (M 206 7) from ⟨by omega, by omega⟩), (show -1 ≤ M 206 7 by omega), (show M 206 7 ≤ -1 by omega), fun _ h => nomatch h⟩
/-- a step, however a traveller stands -/
noncomputable def s32_206 (X : Int → Int) (LX : Nat) : Prop := ck_Ok qL_O X LX 32 q32_206 ∧ ck_Ok qL_O X LX 32 q32n_206 ∧ ck_Ok qL_O X LX 32 q32m_206
theorem q32_206_c (hS : s32_206 X LX) (hd : 13 ≤ d) (hF : gm_Fx qL_O 249 K R M) (h8 : R 3 8 = 246) (hs : SPc 206 i M) (hi : i ≤ 299) (q : ∀ K2 R2 M2, gm_Fx qL_O 249 K2 R2 M2 → ck_fr q32_206_W 249 K R M 249 K2 R2 M2 → SPc 206 (i + 1) M2 → Q (.inl none) 249 K2 R2 M2) : gm_Wp X LX d 0 0 32 0 (gm_ent 32 [gm_vr 206]) [] 249 K R M Q := by
  obtain ⟨hc, s5, s7⟩ := hs
  rcases hc with ⟨s2, r0, i0⟩ | ⟨s2, r0, i0⟩
  · exact q32a_206_c hS.1 hd hF h8 s2 ⟨r0, s5⟩ s7 ⟨i0, hi⟩ (fun K2 R2 M2 hF2 hf2 e2 e5 e7 => q K2 R2 M2 hF2 hf2 ⟨Or.inl ⟨by rw [e2]; exact s2, e5.1, by omega⟩, e5.2, e7⟩)
  · by_cases hm : i = -1
    · exact q32d_206_c hS.2.2 hd hF h8 ⟨by omega, by omega⟩ ⟨r0, s5⟩ s7 ⟨by omega, by omega⟩ (fun K2 R2 M2 hF2 hf2 e2 e5 e7 => q K2 R2 M2 hF2 hf2 ⟨Or.inr ⟨by rw [e2]; exact s2, e5.1, by omega⟩, e5.2, e7⟩)
    · exact q32b_206_c hS.2.1 hd hF h8 ⟨by omega, by omega⟩ ⟨r0, s5⟩ s7 ⟨by omega, hi⟩ (fun K2 R2 M2 hF2 hf2 e2 e5 e7 => q K2 R2 M2 hF2 hf2 ⟨Or.inr ⟨by rw [e2]; exact s2, e5.1, by omega⟩, e5.2, e7⟩)
noncomputable def q30_206 : ck_Sum := ((14, 0, 0), 249, [.inr (.inr (.inl 206)), .inl (0, 299, [])], ([], [(3, 8, 246)], [(206, 2, 2, (0, 6, [])), (206, 5, 5, (0, 300, [])), (206, 7, 7, (0, 299, []))]), q32_206_W, [(.inr (some (.inl ((-1), 299, []))), 249, ([], [], []))])
theorem fr0_206 {n2 : Nat} {K2 : gm_K} {R2 : gm_R} {M2 : gm_M} (h : ck_fr q32_206_W 249 K0 R0 M0 249 K R M) (h2 : ck_fr ([], []) 249 K R M n2 K2 R2 M2) : ck_fr q32_206_W 249 K0 R0 M0 n2 K2 R2 M2 := ⟨h2.1, fun k hk => (h2.2.1 k hk).trans (h.2.1 k hk), fun k j hk hw => (h2.2.2.1 k j hk (fun _ h => nomatch h)).trans (h.2.2.1 k j hk hw), fun k j hk hw => (h2.2.2.2 k j hk (fun h => nomatch h)).trans (h.2.2.2 k j hk hw)⟩
theorem fr1_206 {n2 : Nat} {K2 : gm_K} {R2 : gm_R} {M2 : gm_M} (h : ck_fr q32_206_W 249 K0 R0 M0 249 K R M) (h2 : ck_fr q32_206_W 249 K R M n2 K2 R2 M2) : ck_fr q32_206_W 249 K0 R0 M0 n2 K2 R2 M2 := ⟨h2.1, fun k hk => (h2.2.1 k hk).trans (h.2.1 k hk), fun k j hk hw => (h2.2.2.1 k j hk hw).trans (h.2.2.1 k j hk hw), fun k j hk hw => (h2.2.2.2 k j hk hw).trans (h.2.2.2 k j hk hw)⟩
theorem sp0_206 {n2 : Nat} {K2 : gm_K} {R2 : gm_R} {M2 : gm_M} (h2 : ck_fr ([], []) 249 K R M n2 K2 R2 M2) (hs : SPc 206 i M) : SPc 206 i M2 := by
  have e : ∀ j, M2 206 j = M 206 j := fun j => h2.2.2.1 206 j (by decide) (fun _ h => nomatch h)
  unfold SPc at hs ⊢
  rw [e, e, e]
  exact hs
/-- runOut's loop -/
theorem q30_206_l (hS : s32_206 X LX) (hd : 14 ≤ d) (hl : 0 ≤ last ∧ last ≤ 299) (h80 : R0 3 8 = 246) (hq : ∀ v K2 R2 M2, -1 ≤ v → v ≤ 299 → gm_Fx qL_O 249 K2 R2 M2 → ck_fr q32_206_W 249 K0 R0 M0 249 K2 R2 M2 → Q (.inl (some (gm_vi v))) 249 K2 R2 M2) : ∀ (u : Nat) (i : Int) (K : gm_K) (R : gm_R) (M : gm_M), i + (u : Int) = 300 → -1 ≤ i → SPc 206 i M → gm_Fx qL_O 249 K R M → ck_fr q32_206_W 249 K0 R0 M0 249 K R M → gm_Wp X LX d 0 0 30 5 [some (gm_vr 206), some (gm_vi last), some (gm_vi i)] [] 249 K R M Q := by
  intro u
  induction u with
  | zero =>
    intro i K R M hu hi hs hF hfr
    refine gm_sz (gm_p_load (pc := 5) (i := .iload_n 2) (sr := 0) (j := 2) (by decide +kernel) rfl rfl rfl) ?_
    refine gm_sz (gm_p_load (pc := 6) (i := .iload_n 1) (sr := 0) (j := 1) (by decide +kernel) rfl rfl rfl) ?_
    refine fw_ict (cc := .gt) (pc := 7) (off := 22) (by decide +kernel) (by decide) ⟨by omega, by omega⟩ ⟨by omega, by omega⟩ (show i > last by omega) ?_
    refine gm_sz (gm_p_const (pc := 29) (i := .iconst (-1)) (v := gm_vi (-1)) (by decide +kernel) (by decide +kernel)) ?_
    exact gm_r_int (pc := 30) (by decide +kernel) (Or.inl (by decide +kernel)) (hq (-1) _ _ _ (Int.le_refl _) (by decide) hF hfr)
  | succ u ih =>
    intro i K R M hu hi hs hF hfr
    have kc : (1 ≤ 206 ∧ 206 ≤ 249) ∧ (K 206).1 = 5 + 4 := ⟨⟨by decide, by decide⟩, by rw [(hF.1 206 (9, 0) rfl).2.2]⟩
    refine gm_sz (gm_p_load (pc := 5) (i := .iload_n 2) (sr := 0) (j := 2) (by decide +kernel) rfl rfl rfl) ?_
    refine gm_sz (gm_p_load (pc := 6) (i := .iload_n 1) (sr := 0) (j := 1) (by decide +kernel) rfl rfl rfl) ?_
    refine fw_ic (cc := .gt) (pc := 7) (off := 22) (by decide +kernel) (by decide) ⟨by omega, by omega⟩ ⟨by omega, by omega⟩ (fun hp => ?_) (fun hp => ?_)
    · refine gm_sz (gm_p_const (pc := 29) (i := .iconst (-1)) (v := gm_vi (-1)) (by decide +kernel) (by decide +kernel)) ?_
      exact gm_r_int (pc := 30) (by decide +kernel) (Or.inl (by decide +kernel)) (hq (-1) _ _ _ (Int.le_refl _) (by decide) hF hfr)
    · have hp : ¬ last < i := hp
      refine gm_sz (gm_p_load (pc := 10) (i := .aload_n 0) (sr := 2) (j := 0) (by decide +kernel) rfl rfl rfl) ?_
      refine gm_c_virt (k := 206) (ci := 5) (mj := 31) (ix := 68) (pc := 11) (as := []) (st := []) (d' := 0) (bc' := 0) (bs' := 0) (by decide +kernel) (by decide +kernel) (by decide +kernel) (by decide +kernel) kc.1 kc.2 (by decide) (by decide +kernel) (show 0 = gm_na 31 by decide +kernel) fw_c0 (show 0 + 1 ≤ gm_ml 31 by decide +kernel) (Nat.le_of_ble_eq_true rfl) (by omega) (Nat.zero_le _) (Nat.zero_le _) ?_
      refine q31_206_c hF (spc_b hs).1 (fun v K2 R2 M2 hv hF2 hf2 => ?_)
      show gm_Wp X LX d 0 0 30 14 [some (gm_vr 206), some (gm_vi last), some (gm_vi i)] [gm_vi v] 249 K2 R2 M2 Q
      have hfr2 := fr0_206 hfr hf2
      refine fw_if (cc := .eq) (pc := 14) (off := 5) (by decide +kernel) (by decide) (by rcases hv with rfl | rfl <;> exact ⟨by decide, by decide⟩) (fun hp2 => ?_) (fun hp2 => ?_)
      · refine gm_sz (gm_p_load (pc := 19) (i := .aload_n 0) (sr := 2) (j := 0) (by decide +kernel) rfl rfl rfl) ?_
        have kc2 : (1 ≤ 206 ∧ 206 ≤ 249) ∧ (K2 206).1 = 5 + 4 := ⟨⟨by decide, by decide⟩, by rw [(hF2.1 206 (9, 0) rfl).2.2]⟩
        refine gm_c_virt (k := 206) (ci := 5) (mj := 32) (ix := 112) (pc := 20) (as := []) (st := []) (d' := 13) (bc' := 0) (bs' := 0) (by decide +kernel) (by decide +kernel) (by decide +kernel) (by decide +kernel) kc2.1 kc2.2 (by decide) (by decide +kernel) (show 0 = gm_na 32 by decide +kernel) fw_c0 (show 0 + 1 ≤ gm_ml 32 by decide +kernel) (Nat.le_of_ble_eq_true rfl) (by omega) (Nat.zero_le _) (Nat.zero_le _) ?_
        have h82 : R2 3 8 = 246 := (hfr2.2.2.2 3 8 (by decide) (fun h => nomatch h)).trans h80
        refine q32_206_c hS (Nat.le_refl _) hF2 h82 (sp0_206 hf2 hs) (by omega) (fun K3 R3 M3 hF3 hf3 hs3 => ?_)
        show gm_Wp X LX d 0 0 30 23 [some (gm_vr 206), some (gm_vi last), some (gm_vi i)] [] 249 K3 R3 M3 Q
        refine gm_sz (gm_p_iinc (pc := 23) (j := 2) (z := 1) (by decide +kernel) rfl) ?_
        refine gm_sz (gm_p_goto (pc := 26) (off := (-21)) (by decide +kernel) (by decide)) ?_
        exact ih (i + 1) K3 R3 M3 (by omega) (by omega) hs3 hF3 (fr1_206 hfr2 hf3)
      · refine gm_sz (gm_p_load (pc := 17) (i := .iload_n 2) (sr := 0) (j := 2) (by decide +kernel) rfl rfl rfl) ?_
        exact gm_r_int (pc := 18) (by decide +kernel) (Or.inl (by decide +kernel)) (hq i _ _ _ (by omega) (by omega) hF2 hfr2)
theorem sp_f_206 {σ : Nat → Int} {n : Nat} (hf : ck_gf σ ([], [(3, 8, 246)], [(206, 2, 2, (0, 6, [])), (206, 5, 5, (0, 300, [])), (206, 7, 7, (0, 299, []))]) n K R M) : R 3 8 = 246 ∧ SPc 206 (M 206 7) M ∧ (0 ≤ M 206 7 ∧ M 206 7 ≤ 299) ∧ 0 ≤ M 206 2 := by
  have f2 := ((hf.2.2 (206, 2, 2, (0, 6, [])) List.mem_cons_self).2 2 (Int.le_refl _) (Int.le_refl _)).2
  have f5 := ((hf.2.2 (206, 5, 5, (0, 300, [])) (List.mem_cons_of_mem _ List.mem_cons_self)).2 5 (Int.le_refl _) (Int.le_refl _)).2
  have f7 := ((hf.2.2 (206, 7, 7, (0, 299, [])) (List.mem_cons_of_mem _ (List.mem_cons_of_mem _ List.mem_cons_self))).2 7 (Int.le_refl _) (Int.le_refl _)).2
  exact ⟨(hf.2.1 (3, 8, 246) List.mem_cons_self).2, ⟨Or.inl ⟨⟨f2.1, f2.2.1⟩, f5.1, f7.1⟩, f5.2.1, rfl⟩, ⟨f7.1, f7.2.1⟩, f2.1⟩
theorem sp_g_206 {σ : Nat → Int} {n : Nat} (hf : ck_gf σ ([], [(3, 8, 246)], [(206, 2, 2, ((-1), (-1), [])), (206, 5, 5, ((-1), 300, [])), (206, 7, 7, ((-1), 299, []))]) n K R M) : R 3 8 = 246 ∧ SPc 206 (M 206 7) M ∧ (-1 ≤ M 206 7 ∧ M 206 7 ≤ 299) ∧ M 206 2 = -1 := by
  have f2 := ((hf.2.2 (206, 2, 2, ((-1), (-1), [])) List.mem_cons_self).2 2 (Int.le_refl _) (Int.le_refl _)).2
  have f5 := ((hf.2.2 (206, 5, 5, ((-1), 300, [])) (List.mem_cons_of_mem _ List.mem_cons_self)).2 5 (Int.le_refl _) (Int.le_refl _)).2
  have f7 := ((hf.2.2 (206, 7, 7, ((-1), 299, [])) (List.mem_cons_of_mem _ (List.mem_cons_of_mem _ List.mem_cons_self))).2 7 (Int.le_refl _) (Int.le_refl _)).2
  exact ⟨(hf.2.1 (3, 8, 246) List.mem_cons_self).2, ⟨Or.inr ⟨Int.le_antisymm f2.2.1 f2.1, f5.1, f7.1⟩, f5.2.1, rfl⟩, ⟨f7.1, f7.2.1⟩, Int.le_antisymm f2.2.1 f2.1⟩
theorem q30_206_s (hS : s32_206 X LX) : ck_Ok qL_O X LX 30 q30_206 := by
  intro d σ vs n K R M hd hn hvs hσ hF hf
  obtain ⟨v0, w0, rfl, g0, v1, w1, rfl, ⟨l, rfl, hl, l0, l1, -⟩, g4⟩ := hvs
  have g4 : w1 = [] := g4
  subst g4
  have g0 : v0 = gm_vr 206 := g0
  subst g0
  have l0 : (0 : Int) ≤ l := l0
  have l1 : l ≤ (299 : Int) := l1
  have hn : n = 249 := hn
  subst hn
  obtain ⟨h8, hs, ⟨a0, a1⟩, a2⟩ := sp_f_206 hf
  refine gm_sz (gm_p_load (pc := 0) (i := .aload_n 0) (sr := 2) (j := 0) (by decide +kernel) rfl rfl rfl) ?_
  refine gm_sz (fw_gi (pc := 1) (ix := 28) (ci := 5) (j := 7) (x := M 206 7) (by decide +kernel) (e0k (e0F (pl_o (qL_p hF))) (k := 206) (c := 5) (by decide +kernel)) (by decide +kernel) (by decide +kernel) rfl) ?_
  refine gm_sz (gm_p_stor (pc := 4) (i := .istore_n 2) (sr := 0) (j := 2) (by decide +kernel) rfl (show 3 ≤ _ from Nat.le_of_ble_eq_true rfl) rfl) ?_
  exact q30_206_l hS hd ⟨l0, l1⟩ h8 (fun v K2 R2 M2 v0 v1 hF2 hfr2 => ⟨hF2, hfr2, _, List.mem_cons_self, ⟨v, rfl, ⟨by omega, by omega⟩, v0, v1, (fun _ h => nomatch h)⟩, rfl, (fun _ h => nomatch h), (fun _ h => nomatch h), (fun _ h => nomatch h)⟩) (300 - M 206 7).toNat (M 206 7) K R M (by omega) (by omega) hs hF ck_fr_0
noncomputable def q30n_206 : ck_Sum := ((14, 0, 0), 249, [.inr (.inr (.inl 206)), .inl (0, 299, [])], ([], [(3, 8, 246)], [(206, 2, 2, ((-1), (-1), [])), (206, 5, 5, ((-1), 300, [])), (206, 7, 7, ((-1), 299, []))]), q32_206_W, [(.inr (some (.inl ((-1), 299, []))), 249, ([], [], []))])
theorem q30n_206_s (hS : s32_206 X LX) : ck_Ok qL_O X LX 30 q30n_206 := by
  intro d σ vs n K R M hd hn hvs hσ hF hf
  obtain ⟨v0, w0, rfl, g0, v1, w1, rfl, ⟨l, rfl, hl, l0, l1, -⟩, g4⟩ := hvs
  have g4 : w1 = [] := g4
  subst g4
  have g0 : v0 = gm_vr 206 := g0
  subst g0
  have l0 : (0 : Int) ≤ l := l0
  have l1 : l ≤ (299 : Int) := l1
  have hn : n = 249 := hn
  subst hn
  obtain ⟨h8, hs, ⟨a0, a1⟩, a2⟩ := sp_g_206 hf
  refine gm_sz (gm_p_load (pc := 0) (i := .aload_n 0) (sr := 2) (j := 0) (by decide +kernel) rfl rfl rfl) ?_
  refine gm_sz (fw_gi (pc := 1) (ix := 28) (ci := 5) (j := 7) (x := M 206 7) (by decide +kernel) (e0k (e0F (pl_o (qL_p hF))) (k := 206) (c := 5) (by decide +kernel)) (by decide +kernel) (by decide +kernel) rfl) ?_
  refine gm_sz (gm_p_stor (pc := 4) (i := .istore_n 2) (sr := 0) (j := 2) (by decide +kernel) rfl (show 3 ≤ _ from Nat.le_of_ble_eq_true rfl) rfl) ?_
  exact q30_206_l hS hd ⟨l0, l1⟩ h8 (fun v K2 R2 M2 v0 v1 hF2 hfr2 => ⟨hF2, hfr2, _, List.mem_cons_self, ⟨v, rfl, ⟨by omega, by omega⟩, v0, v1, (fun _ h => nomatch h)⟩, rfl, (fun _ h => nomatch h), (fun _ h => nomatch h), (fun _ h => nomatch h)⟩) (300 - M 206 7).toNat (M 206 7) K R M (by omega) (by omega) hs hF ck_fr_0
noncomputable def q148_206 : ck_Sum := ((14, 0, 0), 249, [.inr (.inr (.inl 206)), .inl (0, 299, [])], ([], [(3, 8, 246)], [(206, 2, 2, (0, 6, [])), (206, 5, 5, (0, 300, [])), (206, 7, 7, (0, 299, []))]), q32_206_W, [(.inr none, 249, ([], [], [(206, 5, 5, (0, 300, [])), (206, 7, 7, (0, 299, []))]))])
theorem q148_206_l {mx : Int} (hS : s32_206 X LX) (hd : 14 ≤ d) (hl : 0 ≤ last ∧ last ≤ 299) (hmx : last ≤ mx) (h80 : R0 3 8 = 246) (hq : ∀ i K2 R2 M2, -1 ≤ i → i ≤ 299 → last ≤ i → i ≤ mx → SPc 206 i M2 → gm_Fx qL_O 249 K2 R2 M2 → ck_fr q32_206_W 249 K0 R0 M0 249 K2 R2 M2 → Q (.inl none) 249 K2 R2 M2) : ∀ (u : Nat) (i : Int) (K : gm_K) (R : gm_R) (M : gm_M), i + (u : Int) = 299 → -1 ≤ i → i ≤ mx → SPc 206 i M → gm_Fx qL_O 249 K R M → ck_fr q32_206_W 249 K0 R0 M0 249 K R M → gm_Wp X LX d 0 0 148 5 [some (gm_vr 206), some (gm_vi last), some (gm_vi i)] [] 249 K R M Q := by
  intro u
  induction u with
  | zero =>
    intro i K R M hu hi him hs hF hfr
    refine gm_sz (gm_p_load (pc := 5) (i := .iload_n 2) (sr := 0) (j := 2) (by decide +kernel) rfl rfl rfl) ?_
    refine gm_sz (gm_p_load (pc := 6) (i := .iload_n 1) (sr := 0) (j := 1) (by decide +kernel) rfl rfl rfl) ?_
    refine fw_ict (cc := .ge) (pc := 7) (off := 13) (by decide +kernel) (by decide) ⟨by omega, by omega⟩ ⟨by omega, by omega⟩ (show last ≤ i by omega) ?_
    exact gm_r_void (pc := 20) (by decide +kernel) (by decide +kernel) (hq i _ _ _ hi (by omega) (by omega) him hs hF hfr)
  | succ u ih =>
    intro i K R M hu hi him hs hF hfr
    refine gm_sz (gm_p_load (pc := 5) (i := .iload_n 2) (sr := 0) (j := 2) (by decide +kernel) rfl rfl rfl) ?_
    refine gm_sz (gm_p_load (pc := 6) (i := .iload_n 1) (sr := 0) (j := 1) (by decide +kernel) rfl rfl rfl) ?_
    refine fw_ic (cc := .ge) (pc := 7) (off := 13) (by decide +kernel) (by decide) ⟨by omega, by omega⟩ ⟨by omega, by omega⟩ (fun hp => ?_) (fun hp => ?_)
    · have hp : last ≤ i := hp
      exact gm_r_void (pc := 20) (by decide +kernel) (by decide +kernel) (hq i _ _ _ hi (by omega) hp him hs hF hfr)
    · have hp : ¬ last ≤ i := hp
      refine gm_sz (gm_p_load (pc := 10) (i := .aload_n 0) (sr := 2) (j := 0) (by decide +kernel) rfl rfl rfl) ?_
      have kc2 : (1 ≤ 206 ∧ 206 ≤ 249) ∧ (K 206).1 = 5 + 4 := ⟨⟨by decide, by decide⟩, by rw [(hF.1 206 (9, 0) rfl).2.2]⟩
      refine gm_c_virt (k := 206) (ci := 5) (mj := 32) (ix := 112) (pc := 11) (as := []) (st := []) (d' := 13) (bc' := 0) (bs' := 0) (by decide +kernel) (by decide +kernel) (by decide +kernel) (by decide +kernel) kc2.1 kc2.2 (by decide) (by decide +kernel) (show 0 = gm_na 32 by decide +kernel) fw_c0 (show 0 + 1 ≤ gm_ml 32 by decide +kernel) (Nat.le_of_ble_eq_true rfl) (by omega) (Nat.zero_le _) (Nat.zero_le _) ?_
      have h82 : R 3 8 = 246 := (hfr.2.2.2 3 8 (by decide) (fun h => nomatch h)).trans h80
      refine q32_206_c hS (Nat.le_refl _) hF h82 hs (by omega) (fun K3 R3 M3 hF3 hf3 hs3 => ?_)
      show gm_Wp X LX d 0 0 148 14 [some (gm_vr 206), some (gm_vi last), some (gm_vi i)] [] 249 K3 R3 M3 Q
      refine gm_sz (gm_p_iinc (pc := 14) (j := 2) (z := 1) (by decide +kernel) rfl) ?_
      refine gm_sz (gm_p_goto (pc := 17) (off := (-12)) (by decide +kernel) (by decide)) ?_
      exact ih (i + 1) K3 R3 M3 (by omega) (by omega) (by omega) hs3 hF3 (fr1_206 hfr hf3)
theorem q148_206_s (hS : s32_206 X LX) : ck_Ok qL_O X LX 148 q148_206 := by
  intro d σ vs n K R M hd hn hvs hσ hF hf
  obtain ⟨v0, w0, rfl, g0, v1, w1, rfl, ⟨l, rfl, hl, l0, l1, -⟩, g4⟩ := hvs
  have g4 : w1 = [] := g4
  subst g4
  have g0 : v0 = gm_vr 206 := g0
  subst g0
  have l0 : (0 : Int) ≤ l := l0
  have l1 : l ≤ (299 : Int) := l1
  have hn : n = 249 := hn
  subst hn
  obtain ⟨h8, hs, ⟨a0, a1⟩, a2⟩ := sp_f_206 hf
  refine gm_sz (gm_p_load (pc := 0) (i := .aload_n 0) (sr := 2) (j := 0) (by decide +kernel) rfl rfl rfl) ?_
  refine gm_sz (fw_gi (pc := 1) (ix := 28) (ci := 5) (j := 7) (x := M 206 7) (by decide +kernel) (e0k (e0F (pl_o (qL_p hF))) (k := 206) (c := 5) (by decide +kernel)) (by decide +kernel) (by decide +kernel) rfl) ?_
  refine gm_sz (gm_p_stor (pc := 4) (i := .istore_n 2) (sr := 0) (j := 2) (by decide +kernel) rfl (show 3 ≤ _ from Nat.le_of_ble_eq_true rfl) rfl) ?_
  refine q148_206_l (mx := 299) hS hd ⟨l0, l1⟩ l1 h8 (fun i K2 R2 M2 i0 i1 _ _ hs2 hF2 hfr2 => ⟨hF2, hfr2, _, List.mem_cons_self, trivial, rfl, (fun _ h => nomatch h), (fun _ h => nomatch h), fun q hq => ?_⟩) (299 - M 206 7).toNat (M 206 7) K R M (by omega) (by omega) (by omega) hs hF ck_fr_0
  have e2 : M2 206 2 = M 206 2 := hfr2.2.2.1 206 2 (by decide) (fun w hw hh => absurd hh (of_decide_eq_true (List.all_eq_true.mp (show q32_206_W.1.all (fun w => decide (¬ (w.1 = 206 ∧ w.2.1 ≤ 2 ∧ 2 ≤ w.2.2))) = true by decide) w hw)))
  have b5 : 0 ≤ M2 206 5 ∧ M2 206 5 ≤ 300 := by
    have z2 := hs.1
    have z3 := hs2
    unfold SPc at z3
    omega
  have b7 : M2 206 7 = i ∧ 0 ≤ i := by
    have z2 := hs.1
    have z3 := hs2
    unfold SPc at z3
    omega
  simp only [List.mem_cons, List.not_mem_nil, or_false] at hq
  rcases hq with rfl | rfl
  · refine ⟨by show 206 ≤ 249; decide, fun j j1 j2 => ?_⟩
    have ej : j = 5 := Int.le_antisymm j2 j1
    subst ej
    exact ⟨(show gm_ir (M2 206 5) from ⟨by omega, by omega⟩), b5.1, b5.2, fun _ h => nomatch h⟩
  · refine ⟨by show 206 ≤ 249; decide, fun j j1 j2 => ?_⟩
    have ej : j = 7 := Int.le_antisymm j2 j1
    subst ej
    exact ⟨(show gm_ir (M2 206 7) from ⟨by omega, by omega⟩), (show 0 ≤ M2 206 7 by omega), (show M2 206 7 ≤ 299 by omega), fun _ h => nomatch h⟩
noncomputable def q148n_206 : ck_Sum := ((14, 0, 0), 249, [.inr (.inr (.inl 206)), .inl (0, 299, [])], ([], [(3, 8, 246)], [(206, 2, 2, ((-1), (-1), [])), (206, 5, 5, ((-1), 300, [])), (206, 7, 7, ((-1), 299, []))]), q32_206_W, [(.inr none, 249, ([], [], [(206, 5, 5, ((-1), 300, [])), (206, 7, 7, ((-1), 299, []))]))])
theorem q148n_206_s (hS : s32_206 X LX) : ck_Ok qL_O X LX 148 q148n_206 := by
  intro d σ vs n K R M hd hn hvs hσ hF hf
  obtain ⟨v0, w0, rfl, g0, v1, w1, rfl, ⟨l, rfl, hl, l0, l1, -⟩, g4⟩ := hvs
  have g4 : w1 = [] := g4
  subst g4
  have g0 : v0 = gm_vr 206 := g0
  subst g0
  have l0 : (0 : Int) ≤ l := l0
  have l1 : l ≤ (299 : Int) := l1
  have hn : n = 249 := hn
  subst hn
  obtain ⟨h8, hs, ⟨a0, a1⟩, a2⟩ := sp_g_206 hf
  refine gm_sz (gm_p_load (pc := 0) (i := .aload_n 0) (sr := 2) (j := 0) (by decide +kernel) rfl rfl rfl) ?_
  refine gm_sz (fw_gi (pc := 1) (ix := 28) (ci := 5) (j := 7) (x := M 206 7) (by decide +kernel) (e0k (e0F (pl_o (qL_p hF))) (k := 206) (c := 5) (by decide +kernel)) (by decide +kernel) (by decide +kernel) rfl) ?_
  refine gm_sz (gm_p_stor (pc := 4) (i := .istore_n 2) (sr := 0) (j := 2) (by decide +kernel) rfl (show 3 ≤ _ from Nat.le_of_ble_eq_true rfl) rfl) ?_
  refine q148_206_l (mx := 299) hS hd ⟨l0, l1⟩ l1 h8 (fun i K2 R2 M2 i0 i1 _ _ hs2 hF2 hfr2 => ⟨hF2, hfr2, _, List.mem_cons_self, trivial, rfl, (fun _ h => nomatch h), (fun _ h => nomatch h), fun q hq => ?_⟩) (299 - M 206 7).toNat (M 206 7) K R M (by omega) (by omega) (by omega) hs hF ck_fr_0
  have e2 : M2 206 2 = M 206 2 := hfr2.2.2.1 206 2 (by decide) (fun w hw hh => absurd hh (of_decide_eq_true (List.all_eq_true.mp (show q32_206_W.1.all (fun w => decide (¬ (w.1 = 206 ∧ w.2.1 ≤ 2 ∧ 2 ≤ w.2.2))) = true by decide) w hw)))
  have b5 : -1 ≤ M2 206 5 ∧ M2 206 5 ≤ 300 := by
    have z2 := hs.1
    have z3 := hs2
    unfold SPc at z3
    omega
  have b7 : M2 206 7 = i ∧ -1 ≤ i := by
    have z2 := hs.1
    have z3 := hs2
    unfold SPc at z3
    omega
  simp only [List.mem_cons, List.not_mem_nil, or_false] at hq
  rcases hq with rfl | rfl
  · refine ⟨by show 206 ≤ 249; decide, fun j j1 j2 => ?_⟩
    have ej : j = 5 := Int.le_antisymm j2 j1
    subst ej
    exact ⟨(show gm_ir (M2 206 5) from ⟨by omega, by omega⟩), b5.1, b5.2, fun _ h => nomatch h⟩
  · refine ⟨by show 206 ≤ 249; decide, fun j j1 j2 => ?_⟩
    have ej : j = 7 := Int.le_antisymm j2 j1
    subst ej
    exact ⟨(show gm_ir (M2 206 7) from ⟨by omega, by omega⟩), (show -1 ≤ M2 206 7 by omega), (show M2 206 7 ≤ 299 by omega), fun _ h => nomatch h⟩
noncomputable def q32_207_W : List (Nat × Int × Int) × List (Nat × Int) := ([(200, 6, 6), (204, 0, 9), (205, 0, 14849), (207, 5, 8)], [])
theorem q32a_207_c (hS : ck_Ok qL_O X LX 32 q32_207) (hd : 13 ≤ d) (hF : gm_Fx qL_O 249 K R M) (h8 : R 3 8 = 246) (s2 : 0 ≤ M 207 2 ∧ M 207 2 ≤ 6) (s5 : 0 ≤ M 207 5 ∧ M 207 5 ≤ 300) (s7 : M 207 7 = i) (hi : 0 ≤ i ∧ i ≤ 299) (q : ∀ K2 R2 M2, gm_Fx qL_O 249 K2 R2 M2 → ck_fr q32_207_W 249 K R M 249 K2 R2 M2 → M2 207 2 = M 207 2 → (0 ≤ M2 207 5 ∧ M2 207 5 ≤ 300) → M2 207 7 = i + 1 → Q (.inl none) 249 K2 R2 M2) : gm_Wp X LX d 0 0 32 0 (gm_ent 32 [gm_vr 207]) [] 249 K R M Q := by
  have hσ := ck_sn_s (σ := fun _ => 0) (M := M) qL_nmu
  have hnm : ck_sn qL_O (fun _ => 0) M 29 = M 207 7 := hσ (29, 207, 7) (by decide)
  refine gm_Wp_mono (fun o n' K' R' M' hq => ?_) (hS d (ck_sn qL_O (fun _ => 0) M) [gm_vr 207] 249 K R M hd rfl ⟨_, _, rfl, rfl, rfl⟩ hσ hF ⟨(fun _ h => nomatch h), fun q hq => ?_, fun q hq => ?_⟩)
  · obtain ⟨hF2, hfr, oc, hoc, ho, hn, hf⟩ := hq
    have hoc := List.mem_singleton.mp hoc
    subst hoc
    have hn : n' = 249 := hn
    subst hn
    rcases o with (_ | v) | x
    · have f5 := ((hf.2.2 (207, 5, 5, (0, 300, [])) List.mem_cons_self).2 5 (Int.le_refl _) (Int.le_refl _)).2
      have f7 := ((hf.2.2 (207, 7, 7, (1, 300, [(29, 1)])) (List.mem_cons_of_mem _ List.mem_cons_self)).2 7 (Int.le_refl _) (Int.le_refl _)).2.2.2
      have e7 : M' 207 7 = ck_sn qL_O (fun _ => 0) M 29 + 1 := (f7 (29, 1) List.mem_cons_self).1 (by decide)
      have e2 : M' 207 2 = M 207 2 := hfr.2.2.1 207 2 (by decide) (fun w hw hh => absurd hh (of_decide_eq_true (List.all_eq_true.mp (show q32_207_W.1.all (fun w => decide (¬ (w.1 = 207 ∧ w.2.1 ≤ 2 ∧ 2 ≤ w.2.2))) = true by decide) w hw)))
      exact q _ _ _ hF2 hfr e2 ⟨f5.1, f5.2.1⟩ (by rw [e7, hnm, s7])
    · exact absurd ho id
    · exact absurd ho id
  · rw [List.mem_singleton.mp hq]
    exact ⟨by show 3 ≤ 249; decide, h8⟩
  · simp only [List.mem_cons, List.not_mem_nil, or_false, q32_207] at hq
    rcases hq with rfl | rfl | rfl
    · refine ⟨by show 207 ≤ 249; decide, fun j j1 j2 => ?_⟩
      have ej : j = 2 := Int.le_antisymm j2 j1
      subst ej
      exact ⟨(show gm_ir (M 207 2) from ⟨by omega, by omega⟩), s2.1, s2.2, fun _ h => nomatch h⟩
    · refine ⟨by show 207 ≤ 249; decide, fun j j1 j2 => ?_⟩
      have ej : j = 5 := Int.le_antisymm j2 j1
      subst ej
      exact ⟨(show gm_ir (M 207 5) from ⟨by omega, by omega⟩), s5.1, s5.2, fun _ h => nomatch h⟩
    · refine ⟨by show 207 ≤ 249; decide, fun j j1 j2 => ?_⟩
      have ej : j = 7 := Int.le_antisymm j2 j1
      subst ej
      exact ⟨(show gm_ir (M 207 7) from ⟨by omega, by omega⟩), (show 0 ≤ M 207 7 by omega), (show M 207 7 ≤ 299 by omega), ck_gt1 (s := 29) (z := 0) (by decide) (by rw [hnm, Int.add_zero])⟩
theorem q32b_207_c (hS : ck_Ok qL_O X LX 32 q32n_207) (hd : 13 ≤ d) (hF : gm_Fx qL_O 249 K R M) (h8 : R 3 8 = 246) (s2 : -1 ≤ M 207 2 ∧ M 207 2 ≤ -1) (s5 : -1 ≤ M 207 5 ∧ M 207 5 ≤ 300) (s7 : M 207 7 = i) (hi : 0 ≤ i ∧ i ≤ 299) (q : ∀ K2 R2 M2, gm_Fx qL_O 249 K2 R2 M2 → ck_fr q32_207_W 249 K R M 249 K2 R2 M2 → M2 207 2 = M 207 2 → (-1 ≤ M2 207 5 ∧ M2 207 5 ≤ 300) → M2 207 7 = i + 1 → Q (.inl none) 249 K2 R2 M2) : gm_Wp X LX d 0 0 32 0 (gm_ent 32 [gm_vr 207]) [] 249 K R M Q := by
  have hσ := ck_sn_s (σ := fun _ => 0) (M := M) qL_nmu
  have hnm : ck_sn qL_O (fun _ => 0) M 29 = M 207 7 := hσ (29, 207, 7) (by decide)
  refine gm_Wp_mono (fun o n' K' R' M' hq => ?_) (hS d (ck_sn qL_O (fun _ => 0) M) [gm_vr 207] 249 K R M hd rfl ⟨_, _, rfl, rfl, rfl⟩ hσ hF ⟨(fun _ h => nomatch h), fun q hq => ?_, fun q hq => ?_⟩)
  · obtain ⟨hF2, hfr, oc, hoc, ho, hn, hf⟩ := hq
    have hoc := List.mem_singleton.mp hoc
    subst hoc
    have hn : n' = 249 := hn
    subst hn
    rcases o with (_ | v) | x
    · have f5 := ((hf.2.2 (207, 5, 5, ((-1), 300, [])) List.mem_cons_self).2 5 (Int.le_refl _) (Int.le_refl _)).2
      have f7 := ((hf.2.2 (207, 7, 7, (1, 300, [(29, 1)])) (List.mem_cons_of_mem _ List.mem_cons_self)).2 7 (Int.le_refl _) (Int.le_refl _)).2.2.2
      have e7 : M' 207 7 = ck_sn qL_O (fun _ => 0) M 29 + 1 := (f7 (29, 1) List.mem_cons_self).1 (by decide)
      have e2 : M' 207 2 = M 207 2 := hfr.2.2.1 207 2 (by decide) (fun w hw hh => absurd hh (of_decide_eq_true (List.all_eq_true.mp (show q32_207_W.1.all (fun w => decide (¬ (w.1 = 207 ∧ w.2.1 ≤ 2 ∧ 2 ≤ w.2.2))) = true by decide) w hw)))
      exact q _ _ _ hF2 hfr e2 ⟨f5.1, f5.2.1⟩ (by rw [e7, hnm, s7])
    · exact absurd ho id
    · exact absurd ho id
  · rw [List.mem_singleton.mp hq]
    exact ⟨by show 3 ≤ 249; decide, h8⟩
  · simp only [List.mem_cons, List.not_mem_nil, or_false, q32n_207] at hq
    rcases hq with rfl | rfl | rfl
    · refine ⟨by show 207 ≤ 249; decide, fun j j1 j2 => ?_⟩
      have ej : j = 2 := Int.le_antisymm j2 j1
      subst ej
      exact ⟨(show gm_ir (M 207 2) from ⟨by omega, by omega⟩), s2.1, s2.2, fun _ h => nomatch h⟩
    · refine ⟨by show 207 ≤ 249; decide, fun j j1 j2 => ?_⟩
      have ej : j = 5 := Int.le_antisymm j2 j1
      subst ej
      exact ⟨(show gm_ir (M 207 5) from ⟨by omega, by omega⟩), s5.1, s5.2, fun _ h => nomatch h⟩
    · refine ⟨by show 207 ≤ 249; decide, fun j j1 j2 => ?_⟩
      have ej : j = 7 := Int.le_antisymm j2 j1
      subst ej
      exact ⟨(show gm_ir (M 207 7) from ⟨by omega, by omega⟩), (show 0 ≤ M 207 7 by omega), (show M 207 7 ≤ 299 by omega), ck_gt1 (s := 29) (z := 0) (by decide) (by rw [hnm, Int.add_zero])⟩
theorem q32d_207_c (hS : ck_Ok qL_O X LX 32 q32m_207) (hd : 13 ≤ d) (hF : gm_Fx qL_O 249 K R M) (h8 : R 3 8 = 246) (s2 : -1 ≤ M 207 2 ∧ M 207 2 ≤ -1) (s5 : -1 ≤ M 207 5 ∧ M 207 5 ≤ 300) (s7 : M 207 7 = i) (hi : -1 ≤ i ∧ i ≤ -1) (q : ∀ K2 R2 M2, gm_Fx qL_O 249 K2 R2 M2 → ck_fr q32_207_W 249 K R M 249 K2 R2 M2 → M2 207 2 = M 207 2 → (-1 ≤ M2 207 5 ∧ M2 207 5 ≤ 300) → M2 207 7 = i + 1 → Q (.inl none) 249 K2 R2 M2) : gm_Wp X LX d 0 0 32 0 (gm_ent 32 [gm_vr 207]) [] 249 K R M Q := by
  have hσ := ck_sn_s (σ := fun _ => 0) (M := M) qL_nmu
  refine gm_Wp_mono (fun o n' K' R' M' hq => ?_) (hS d (ck_sn qL_O (fun _ => 0) M) [gm_vr 207] 249 K R M hd rfl ⟨_, _, rfl, rfl, rfl⟩ hσ hF ⟨(fun _ h => nomatch h), fun q hq => ?_, fun q hq => ?_⟩)
  · obtain ⟨hF2, hfr, oc, hoc, ho, hn, hf⟩ := hq
    have hoc := List.mem_singleton.mp hoc
    subst hoc
    have hn : n' = 249 := hn
    subst hn
    rcases o with (_ | v) | x
    · have f5 := ((hf.2.2 (207, 5, 5, ((-1), 300, [])) List.mem_cons_self).2 5 (Int.le_refl _) (Int.le_refl _)).2
      have f7 := ((hf.2.2 (207, 7, 7, (0, 0, [])) (List.mem_cons_of_mem _ List.mem_cons_self)).2 7 (Int.le_refl _) (Int.le_refl _)).2
      have e7 : M' 207 7 = 0 := Int.le_antisymm f7.2.1 f7.1
      have e2 : M' 207 2 = M 207 2 := hfr.2.2.1 207 2 (by decide) (fun w hw hh => absurd hh (of_decide_eq_true (List.all_eq_true.mp (show q32_207_W.1.all (fun w => decide (¬ (w.1 = 207 ∧ w.2.1 ≤ 2 ∧ 2 ≤ w.2.2))) = true by decide) w hw)))
      exact q _ _ _ hF2 hfr e2 ⟨f5.1, f5.2.1⟩ (by rw [e7]; omega)
    · exact absurd ho id
    · exact absurd ho id
  · rw [List.mem_singleton.mp hq]
    exact ⟨by show 3 ≤ 249; decide, h8⟩
  · simp only [List.mem_cons, List.not_mem_nil, or_false, q32m_207] at hq
    rcases hq with rfl | rfl | rfl
    · refine ⟨by show 207 ≤ 249; decide, fun j j1 j2 => ?_⟩
      have ej : j = 2 := Int.le_antisymm j2 j1
      subst ej
      exact ⟨(show gm_ir (M 207 2) from ⟨by omega, by omega⟩), s2.1, s2.2, fun _ h => nomatch h⟩
    · refine ⟨by show 207 ≤ 249; decide, fun j j1 j2 => ?_⟩
      have ej : j = 5 := Int.le_antisymm j2 j1
      subst ej
      exact ⟨(show gm_ir (M 207 5) from ⟨by omega, by omega⟩), s5.1, s5.2, fun _ h => nomatch h⟩
    · refine ⟨by show 207 ≤ 249; decide, fun j j1 j2 => ?_⟩
      have ej : j = 7 := Int.le_antisymm j2 j1
      subst ej
      exact ⟨(show gm_ir (M 207 7) from ⟨by omega, by omega⟩), (show -1 ≤ M 207 7 by omega), (show M 207 7 ≤ -1 by omega), fun _ h => nomatch h⟩
/-- a step, however a traveller stands -/
noncomputable def s32_207 (X : Int → Int) (LX : Nat) : Prop := ck_Ok qL_O X LX 32 q32_207 ∧ ck_Ok qL_O X LX 32 q32n_207 ∧ ck_Ok qL_O X LX 32 q32m_207
theorem q32_207_c (hS : s32_207 X LX) (hd : 13 ≤ d) (hF : gm_Fx qL_O 249 K R M) (h8 : R 3 8 = 246) (hs : SPc 207 i M) (hi : i ≤ 299) (q : ∀ K2 R2 M2, gm_Fx qL_O 249 K2 R2 M2 → ck_fr q32_207_W 249 K R M 249 K2 R2 M2 → SPc 207 (i + 1) M2 → Q (.inl none) 249 K2 R2 M2) : gm_Wp X LX d 0 0 32 0 (gm_ent 32 [gm_vr 207]) [] 249 K R M Q := by
  obtain ⟨hc, s5, s7⟩ := hs
  rcases hc with ⟨s2, r0, i0⟩ | ⟨s2, r0, i0⟩
  · exact q32a_207_c hS.1 hd hF h8 s2 ⟨r0, s5⟩ s7 ⟨i0, hi⟩ (fun K2 R2 M2 hF2 hf2 e2 e5 e7 => q K2 R2 M2 hF2 hf2 ⟨Or.inl ⟨by rw [e2]; exact s2, e5.1, by omega⟩, e5.2, e7⟩)
  · by_cases hm : i = -1
    · exact q32d_207_c hS.2.2 hd hF h8 ⟨by omega, by omega⟩ ⟨r0, s5⟩ s7 ⟨by omega, by omega⟩ (fun K2 R2 M2 hF2 hf2 e2 e5 e7 => q K2 R2 M2 hF2 hf2 ⟨Or.inr ⟨by rw [e2]; exact s2, e5.1, by omega⟩, e5.2, e7⟩)
    · exact q32b_207_c hS.2.1 hd hF h8 ⟨by omega, by omega⟩ ⟨r0, s5⟩ s7 ⟨by omega, hi⟩ (fun K2 R2 M2 hF2 hf2 e2 e5 e7 => q K2 R2 M2 hF2 hf2 ⟨Or.inr ⟨by rw [e2]; exact s2, e5.1, by omega⟩, e5.2, e7⟩)
theorem fr1_207 {n2 : Nat} {K2 : gm_K} {R2 : gm_R} {M2 : gm_M} (h : ck_fr q32_207_W 249 K0 R0 M0 249 K R M) (h2 : ck_fr q32_207_W 249 K R M n2 K2 R2 M2) : ck_fr q32_207_W 249 K0 R0 M0 n2 K2 R2 M2 := ⟨h2.1, fun k hk => (h2.2.1 k hk).trans (h.2.1 k hk), fun k j hk hw => (h2.2.2.1 k j hk hw).trans (h.2.2.1 k j hk hw), fun k j hk hw => (h2.2.2.2 k j hk hw).trans (h.2.2.2 k j hk hw)⟩
theorem q148_207_l {mx : Int} (hS : s32_207 X LX) (hd : 14 ≤ d) (hl : 0 ≤ last ∧ last ≤ 299) (hmx : last ≤ mx) (h80 : R0 3 8 = 246) (hq : ∀ i K2 R2 M2, -1 ≤ i → i ≤ 299 → last ≤ i → i ≤ mx → SPc 207 i M2 → gm_Fx qL_O 249 K2 R2 M2 → ck_fr q32_207_W 249 K0 R0 M0 249 K2 R2 M2 → Q (.inl none) 249 K2 R2 M2) : ∀ (u : Nat) (i : Int) (K : gm_K) (R : gm_R) (M : gm_M), i + (u : Int) = 299 → -1 ≤ i → i ≤ mx → SPc 207 i M → gm_Fx qL_O 249 K R M → ck_fr q32_207_W 249 K0 R0 M0 249 K R M → gm_Wp X LX d 0 0 148 5 [some (gm_vr 207), some (gm_vi last), some (gm_vi i)] [] 249 K R M Q := by
  intro u
  induction u with
  | zero =>
    intro i K R M hu hi him hs hF hfr
    refine gm_sz (gm_p_load (pc := 5) (i := .iload_n 2) (sr := 0) (j := 2) (by decide +kernel) rfl rfl rfl) ?_
    refine gm_sz (gm_p_load (pc := 6) (i := .iload_n 1) (sr := 0) (j := 1) (by decide +kernel) rfl rfl rfl) ?_
    refine fw_ict (cc := .ge) (pc := 7) (off := 13) (by decide +kernel) (by decide) ⟨by omega, by omega⟩ ⟨by omega, by omega⟩ (show last ≤ i by omega) ?_
    exact gm_r_void (pc := 20) (by decide +kernel) (by decide +kernel) (hq i _ _ _ hi (by omega) (by omega) him hs hF hfr)
  | succ u ih =>
    intro i K R M hu hi him hs hF hfr
    refine gm_sz (gm_p_load (pc := 5) (i := .iload_n 2) (sr := 0) (j := 2) (by decide +kernel) rfl rfl rfl) ?_
    refine gm_sz (gm_p_load (pc := 6) (i := .iload_n 1) (sr := 0) (j := 1) (by decide +kernel) rfl rfl rfl) ?_
    refine fw_ic (cc := .ge) (pc := 7) (off := 13) (by decide +kernel) (by decide) ⟨by omega, by omega⟩ ⟨by omega, by omega⟩ (fun hp => ?_) (fun hp => ?_)
    · have hp : last ≤ i := hp
      exact gm_r_void (pc := 20) (by decide +kernel) (by decide +kernel) (hq i _ _ _ hi (by omega) hp him hs hF hfr)
    · have hp : ¬ last ≤ i := hp
      refine gm_sz (gm_p_load (pc := 10) (i := .aload_n 0) (sr := 2) (j := 0) (by decide +kernel) rfl rfl rfl) ?_
      have kc2 : (1 ≤ 207 ∧ 207 ≤ 249) ∧ (K 207).1 = 5 + 4 := ⟨⟨by decide, by decide⟩, by rw [(hF.1 207 (9, 0) rfl).2.2]⟩
      refine gm_c_virt (k := 207) (ci := 5) (mj := 32) (ix := 112) (pc := 11) (as := []) (st := []) (d' := 13) (bc' := 0) (bs' := 0) (by decide +kernel) (by decide +kernel) (by decide +kernel) (by decide +kernel) kc2.1 kc2.2 (by decide) (by decide +kernel) (show 0 = gm_na 32 by decide +kernel) fw_c0 (show 0 + 1 ≤ gm_ml 32 by decide +kernel) (Nat.le_of_ble_eq_true rfl) (by omega) (Nat.zero_le _) (Nat.zero_le _) ?_
      have h82 : R 3 8 = 246 := (hfr.2.2.2 3 8 (by decide) (fun h => nomatch h)).trans h80
      refine q32_207_c hS (Nat.le_refl _) hF h82 hs (by omega) (fun K3 R3 M3 hF3 hf3 hs3 => ?_)
      show gm_Wp X LX d 0 0 148 14 [some (gm_vr 207), some (gm_vi last), some (gm_vi i)] [] 249 K3 R3 M3 Q
      refine gm_sz (gm_p_iinc (pc := 14) (j := 2) (z := 1) (by decide +kernel) rfl) ?_
      refine gm_sz (gm_p_goto (pc := 17) (off := (-12)) (by decide +kernel) (by decide)) ?_
      exact ih (i + 1) K3 R3 M3 (by omega) (by omega) (by omega) hs3 hF3 (fr1_207 hfr hf3)
theorem q148_206_c (hS : s32_206 X LX) (hd : 14 ≤ d) (hF : gm_Fx qL_O 249 K R M) (h8 : R 3 8 = 246) (hs : SPc 206 i M) (hl : 0 ≤ last ∧ last ≤ 299) (hi : i ≤ last) (q : ∀ K2 R2 M2, gm_Fx qL_O 249 K2 R2 M2 → ck_fr q32_206_W 249 K R M 249 K2 R2 M2 → SPc 206 last M2 → Q (.inl none) 249 K2 R2 M2) : gm_Wp X LX d 0 0 148 0 (gm_ent 148 [gm_vr 206, gm_vi last]) [] 249 K R M Q := by
  have hb := spc_b hs
  have h7 : M 206 7 = i := hs.2.2
  refine gm_sz (gm_p_load (pc := 0) (i := .aload_n 0) (sr := 2) (j := 0) (by decide +kernel) rfl rfl rfl) ?_
  refine gm_sz (fw_gi (pc := 1) (ix := 28) (ci := 5) (j := 7) (x := i) (by decide +kernel) (e0k (e0F (pl_o (qL_p hF))) (k := 206) (c := 5) (by decide +kernel)) (by decide +kernel) (by decide +kernel) h7) ?_
  refine gm_sz (gm_p_stor (pc := 4) (i := .istore_n 2) (sr := 0) (j := 2) (by decide +kernel) rfl (show 3 ≤ _ from Nat.le_of_ble_eq_true rfl) rfl) ?_
  exact q148_206_l (mx := last) hS hd hl (Int.le_refl _) h8 (fun i2 K2 R2 M2 _ _ a b hs2 hF2 hfr2 => q K2 R2 M2 hF2 hfr2 (by rw [show i2 = last by omega] at hs2; exact hs2)) (299 - i).toNat i K R M (by omega) hb.2 hi hs hF ck_fr_0
theorem q148_207_c (hS : s32_207 X LX) (hd : 14 ≤ d) (hF : gm_Fx qL_O 249 K R M) (h8 : R 3 8 = 246) (hs : SPc 207 i M) (hl : 0 ≤ last ∧ last ≤ 299) (hi : i ≤ last) (q : ∀ K2 R2 M2, gm_Fx qL_O 249 K2 R2 M2 → ck_fr q32_207_W 249 K R M 249 K2 R2 M2 → SPc 207 last M2 → Q (.inl none) 249 K2 R2 M2) : gm_Wp X LX d 0 0 148 0 (gm_ent 148 [gm_vr 207, gm_vi last]) [] 249 K R M Q := by
  have hb := spc_b hs
  have h7 : M 207 7 = i := hs.2.2
  refine gm_sz (gm_p_load (pc := 0) (i := .aload_n 0) (sr := 2) (j := 0) (by decide +kernel) rfl rfl rfl) ?_
  refine gm_sz (fw_gi (pc := 1) (ix := 28) (ci := 5) (j := 7) (x := i) (by decide +kernel) (e0k (e0F (pl_o (qL_p hF))) (k := 207) (c := 5) (by decide +kernel)) (by decide +kernel) (by decide +kernel) h7) ?_
  refine gm_sz (gm_p_stor (pc := 4) (i := .istore_n 2) (sr := 0) (j := 2) (by decide +kernel) rfl (show 3 ≤ _ from Nat.le_of_ble_eq_true rfl) rfl) ?_
  exact q148_207_l (mx := last) hS hd hl (Int.le_refl _) h8 (fun i2 K2 R2 M2 _ _ a b hs2 hF2 hfr2 => q K2 R2 M2 hF2 hfr2 (by rw [show i2 = last by omega] at hs2; exact hs2)) (299 - i).toNat i K R M (by omega) hb.2 hi hs hF ck_fr_0
end RU27
