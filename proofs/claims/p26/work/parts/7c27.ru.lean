/-! 7c27.ru -/
section
/-! RUNS of the travellers under a law: FLOWs that are kept stay right. -/
section RU27
variable {X : Int → Int} {LX d : Nat} {K K0 : gm_K} {R R0 : gm_R} {M M0 : gm_M} {Q : gm_Q} {i last : Int}
/-- where a traveller stands: a LANE, a ROW, a YEAR that may be, or none -/
def SPc (c : Nat) (i : Int) (M : gm_M) : Prop := (((0 ≤ M c 2 ∧ M c 2 ≤ 6) ∧ 0 ≤ M c 5 ∧ 0 ≤ i) ∨ (M c 2 = -1 ∧ -1 ≤ M c 5 ∧ -1 ≤ i)) ∧ M c 5 ≤ 300 ∧ M c 7 = i
theorem spc_b {c : Nat} (h : SPc c i M) : (-1 ≤ M c 5 ∧ M c 5 ≤ 300) ∧ -1 ≤ i := by unfold SPc at h; omega
theorem q31_206_c (hF : gm_Fx qL_O 249 K R M) (h5 : -1 ≤ M 206 5 ∧ M 206 5 ≤ 300) (q : ∀ v K2 R2 M2, v = 0 ∨ v = 1 → gm_Fx qL_O 249 K2 R2 M2 → ck_fr ([], []) 249 K R M 249 K2 R2 M2 → Q (.inl (some (gm_vi v))) 249 K2 R2 M2) : gm_Wp X LX d 0 0 31 0 (gm_ent 31 [gm_vr 206]) [] 249 K R M Q := by
  have hσ := ck_sn_s (σ := fun _ => 0) (M := M) qL_nmu
  refine gm_Wp_mono (fun o n' K' R' M' hq => ?_) (q31n_206_s d (ck_sn qL_O (fun _ => 0) M) [gm_vr 206] 249 K R M (Nat.zero_le _) rfl ⟨_, _, rfl, rfl, rfl⟩ hσ hF ⟨(fun _ h => nomatch h), (fun _ h => nomatch h), fun q hq => ?_⟩)
  · obtain ⟨hF2, hfr, oc, hoc, ho, hn, -⟩ := hq
    have hoc : oc ∈ [_, _] := hoc
    simp only [List.mem_cons, List.not_mem_nil, or_false] at hoc
    rcases hoc with rfl | rfl
    · have hn : n' = 249 := hn
      subst hn
      rcases o with (_ | v) | x
      · exact absurd ho id
      · obtain ⟨y, rfl, -, y0, y1, -⟩ := ho
        exact q y _ _ _ (Or.inl (Int.le_antisymm y1 y0)) hF2 hfr
      · exact absurd ho id
    · have hn : n' = 249 := hn
      subst hn
      rcases o with (_ | v) | x
      · exact absurd ho id
      · obtain ⟨y, rfl, -, y0, y1, -⟩ := ho
        exact q y _ _ _ (Or.inr (Int.le_antisymm y1 y0)) hF2 hfr
      · exact absurd ho id
  · rw [List.mem_singleton.mp hq]
    refine ⟨by show 206 ≤ 249; decide, fun j j1 j2 => ?_⟩
    have ej : j = 5 := Int.le_antisymm j2 j1
    subst ej
    exact ⟨(show gm_ir (M 206 5) from ⟨by omega, by omega⟩), h5.1, h5.2, fun _ h => nomatch h⟩
def q32_206_W : List (Nat × Int × Int) × List (Nat × Int) := ([(200, 6, 6), (204, 0, 9), (205, 0, 14849), (206, 5, 8)], [])
theorem q32a_206_c (hS : ck_Ok qL_O X LX 32 q32_206) (hd : 13 ≤ d) (hF : gm_Fx qL_O 249 K R M) (h8 : R 3 8 = 246) (s2 : 0 ≤ M 206 2 ∧ M 206 2 ≤ 6) (s5 : 0 ≤ M 206 5 ∧ M 206 5 ≤ 300) (s7 : M 206 7 = i) (hi : 0 ≤ i ∧ i ≤ 299) (q : ∀ K2 R2 M2, gm_Fx qL_O 249 K2 R2 M2 → ck_fr q32_206_W 249 K R M 249 K2 R2 M2 → M2 206 2 = M 206 2 → (0 ≤ M2 206 5 ∧ M2 206 5 ≤ 300) → M2 206 7 = i + 1 → Q (.inl none) 249 K2 R2 M2) : gm_Wp X LX d 0 0 32 0 (gm_ent 32 [gm_vr 206]) [] 249 K R M Q := by
  have hσ := ck_sn_s (σ := fun _ => 0) (M := M) qL_nmu
  have hnm : ck_sn qL_O (fun _ => 0) M 28 = M 206 7 := hσ (28, 206, 7) (by decide)
  refine gm_Wp_mono (fun o n' K' R' M' hq => ?_) (hS d (ck_sn qL_O (fun _ => 0) M) [gm_vr 206] 249 K R M hd rfl ⟨_, _, rfl, rfl, rfl⟩ hσ hF ⟨(fun _ h => nomatch h), fun q hq => ?_, fun q hq => ?_⟩)
  · obtain ⟨hF2, hfr, oc, hoc, ho, hn, hf⟩ := hq
    have hoc := List.mem_singleton.mp hoc
    subst hoc
    have hn : n' = 249 := hn
    subst hn
    rcases o with (_ | v) | x
    · have f5 := ((hf.2.2 (206, 5, 5, (0, 300, [])) List.mem_cons_self).2 5 (Int.le_refl _) (Int.le_refl _)).2
      have f7 := ((hf.2.2 (206, 7, 7, (1, 300, [(28, 1)])) (List.mem_cons_of_mem _ List.mem_cons_self)).2 7 (Int.le_refl _) (Int.le_refl _)).2.2.2
      have e7 : M' 206 7 = ck_sn qL_O (fun _ => 0) M 28 + 1 := (f7 (28, 1) List.mem_cons_self).1 (by decide)
      have e2 : M' 206 2 = M 206 2 := hfr.2.2.1 206 2 (by decide) (fun w hw hh => absurd hh (of_decide_eq_true (List.all_eq_true.mp (show q32_206_W.1.all (fun w => decide (¬ (w.1 = 206 ∧ w.2.1 ≤ 2 ∧ 2 ≤ w.2.2))) = true by decide) w hw)))
      exact q _ _ _ hF2 hfr e2 ⟨f5.1, f5.2.1⟩ (by rw [e7, hnm, s7])
    · exact absurd ho id
    · exact absurd ho id
  · rw [List.mem_singleton.mp hq]
    exact ⟨by show 3 ≤ 249; decide, h8⟩
  · simp only [List.mem_cons, List.not_mem_nil, or_false, q32_206] at hq
    rcases hq with rfl | rfl | rfl
    · refine ⟨by show 206 ≤ 249; decide, fun j j1 j2 => ?_⟩
      have ej : j = 2 := Int.le_antisymm j2 j1
      subst ej
      exact ⟨(show gm_ir (M 206 2) from ⟨by omega, by omega⟩), s2.1, s2.2, fun _ h => nomatch h⟩
    · refine ⟨by show 206 ≤ 249; decide, fun j j1 j2 => ?_⟩
      have ej : j = 5 := Int.le_antisymm j2 j1
      subst ej
      exact ⟨(show gm_ir (M 206 5) from ⟨by omega, by omega⟩), s5.1, s5.2, fun _ h => nomatch h⟩
    · refine ⟨by show 206 ≤ 249; decide, fun j j1 j2 => ?_⟩
      have ej : j = 7 := Int.le_antisymm j2 j1
      subst ej
      exact ⟨(show gm_ir (M 206 7) from ⟨by omega, by omega⟩), (show 0 ≤ M 206 7 by omega), (show M 206 7 ≤ 299 by omega), ck_gt1 (s := 28) (z := 0) (by decide) (by rw [hnm, Int.add_zero])⟩
theorem q32b_206_c (hS : ck_Ok qL_O X LX 32 q32n_206) (hd : 13 ≤ d) (hF : gm_Fx qL_O 249 K R M) (h8 : R 3 8 = 246) (s2 : -1 ≤ M 206 2 ∧ M 206 2 ≤ -1) (s5 : -1 ≤ M 206 5 ∧ M 206 5 ≤ 300) (s7 : M 206 7 = i) (hi : 0 ≤ i ∧ i ≤ 299) (q : ∀ K2 R2 M2, gm_Fx qL_O 249 K2 R2 M2 → ck_fr q32_206_W 249 K R M 249 K2 R2 M2 → M2 206 2 = M 206 2 → (-1 ≤ M2 206 5 ∧ M2 206 5 ≤ 300) → M2 206 7 = i + 1 → Q (.inl none) 249 K2 R2 M2) : gm_Wp X LX d 0 0 32 0 (gm_ent 32 [gm_vr 206]) [] 249 K R M Q := by
  have hσ := ck_sn_s (σ := fun _ => 0) (M := M) qL_nmu
  have hnm : ck_sn qL_O (fun _ => 0) M 28 = M 206 7 := hσ (28, 206, 7) (by decide)
  refine gm_Wp_mono (fun o n' K' R' M' hq => ?_) (hS d (ck_sn qL_O (fun _ => 0) M) [gm_vr 206] 249 K R M hd rfl ⟨_, _, rfl, rfl, rfl⟩ hσ hF ⟨(fun _ h => nomatch h), fun q hq => ?_, fun q hq => ?_⟩)
  · obtain ⟨hF2, hfr, oc, hoc, ho, hn, hf⟩ := hq
    have hoc := List.mem_singleton.mp hoc
    subst hoc
    have hn : n' = 249 := hn
    subst hn
    rcases o with (_ | v) | x
    · have f5 := ((hf.2.2 (206, 5, 5, ((-1), 300, [])) List.mem_cons_self).2 5 (Int.le_refl _) (Int.le_refl _)).2
      have f7 := ((hf.2.2 (206, 7, 7, (1, 300, [(28, 1)])) (List.mem_cons_of_mem _ List.mem_cons_self)).2 7 (Int.le_refl _) (Int.le_refl _)).2.2.2
      have e7 : M' 206 7 = ck_sn qL_O (fun _ => 0) M 28 + 1 := (f7 (28, 1) List.mem_cons_self).1 (by decide)
      have e2 : M' 206 2 = M 206 2 := hfr.2.2.1 206 2 (by decide) (fun w hw hh => absurd hh (of_decide_eq_true (List.all_eq_true.mp (show q32_206_W.1.all (fun w => decide (¬ (w.1 = 206 ∧ w.2.1 ≤ 2 ∧ 2 ≤ w.2.2))) = true by decide) w hw)))
      exact q _ _ _ hF2 hfr e2 ⟨f5.1, f5.2.1⟩ (by rw [e7, hnm, s7])
    · exact absurd ho id
    · exact absurd ho id
  · rw [List.mem_singleton.mp hq]
    exact ⟨by show 3 ≤ 249; decide, h8⟩
  · simp only [List.mem_cons, List.not_mem_nil, or_false, q32n_206] at hq
    rcases hq with rfl | rfl | rfl
    · refine ⟨by show 206 ≤ 249; decide, fun j j1 j2 => ?_⟩
      have ej : j = 2 := Int.le_antisymm j2 j1
      subst ej
      exact ⟨(show gm_ir (M 206 2) from ⟨by omega, by omega⟩), s2.1, s2.2, fun _ h => nomatch h⟩
    · refine ⟨by show 206 ≤ 249; decide, fun j j1 j2 => ?_⟩
      have ej : j = 5 := Int.le_antisymm j2 j1
      subst ej
      exact ⟨(show gm_ir (M 206 5) from ⟨by omega, by omega⟩), s5.1, s5.2, fun _ h => nomatch h⟩
    · refine ⟨by show 206 ≤ 249; decide, fun j j1 j2 => ?_⟩
      have ej : j = 7 := Int.le_antisymm j2 j1
      subst ej
      exact ⟨(show gm_ir (M 206 7) from ⟨by omega, by omega⟩), (show 0 ≤ M 206 7 by omega), (show M 206 7 ≤ 299 by omega), ck_gt1 (s := 28) (z := 0) (by decide) (by rw [hnm, Int.add_zero])⟩
theorem q32d_206_c (hS : ck_Ok qL_O X LX 32 q32m_206) (hd : 13 ≤ d) (hF : gm_Fx qL_O 249 K R M) (h8 : R 3 8 = 246) (s2 : -1 ≤ M 206 2 ∧ M 206 2 ≤ -1) (s5 : -1 ≤ M 206 5 ∧ M 206 5 ≤ 300) (s7 : M 206 7 = i) (hi : -1 ≤ i ∧ i ≤ -1) (q : ∀ K2 R2 M2, gm_Fx qL_O 249 K2 R2 M2 → ck_fr q32_206_W 249 K R M 249 K2 R2 M2 → M2 206 2 = M 206 2 → (-1 ≤ M2 206 5 ∧ M2 206 5 ≤ 300) → M2 206 7 = i + 1 → Q (.inl none) 249 K2 R2 M2) : gm_Wp X LX d 0 0 32 0 (gm_ent 32 [gm_vr 206]) [] 249 K R M Q := by
  have hσ := ck_sn_s (σ := fun _ => 0) (M := M) qL_nmu
  refine gm_Wp_mono (fun o n' K' R' M' hq => ?_) (hS d (ck_sn qL_O (fun _ => 0) M) [gm_vr 206] 249 K R M hd rfl ⟨_, _, rfl, rfl, rfl⟩ hσ hF ⟨(fun _ h => nomatch h), fun q hq => ?_, fun q hq => ?_⟩)
  · obtain ⟨hF2, hfr, oc, hoc, ho, hn, hf⟩ := hq
    have hoc := List.mem_singleton.mp hoc
    subst hoc
    have hn : n' = 249 := hn
    subst hn
    rcases o with (_ | v) | x
    · have f5 := ((hf.2.2 (206, 5, 5, ((-1), 300, [])) List.mem_cons_self).2 5 (Int.le_refl _) (Int.le_refl _)).2
      have f7 := ((hf.2.2 (206, 7, 7, (0, 0, [])) (List.mem_cons_of_mem _ List.mem_cons_self)).2 7 (Int.le_refl _) (Int.le_refl _)).2
      have e7 : M' 206 7 = 0 := Int.le_antisymm f7.2.1 f7.1
      have e2 : M' 206 2 = M 206 2 := hfr.2.2.1 206 2 (by decide) (fun w hw hh => absurd hh (of_decide_eq_true (List.all_eq_true.mp (show q32_206_W.1.all (fun w => decide (¬ (w.1 = 206 ∧ w.2.1 ≤ 2 ∧ 2 ≤ w.2.2))) = true by decide) w hw)))
      exact q _ _ _ hF2 hfr e2 ⟨f5.1, f5.2.1⟩ (by rw [e7]; omega)
    · exact absurd ho id
    · exact absurd ho id
  · rw [List.mem_singleton.mp hq]
    exact ⟨by show 3 ≤ 249; decide, h8⟩
  · simp only [List.mem_cons, List.not_mem_nil, or_false, q32m_206] at hq
    rcases hq with rfl | rfl | rfl
    · refine ⟨by show 206 ≤ 249; decide, fun j j1 j2 => ?_⟩
      have ej : j = 2 := Int.le_antisymm j2 j1
      subst ej
      exact ⟨(show gm_ir (M 206 2) from ⟨by omega, by omega⟩), s2.1, s2.2, fun _ h => nomatch h⟩
    · refine ⟨by show 206 ≤ 249; decide, fun j j1 j2 => ?_⟩
      have ej : j = 5 := Int.le_antisymm j2 j1
      subst ej
      exact ⟨(show gm_ir (M 206 5) from ⟨by omega, by omega⟩), s5.1, s5.2, fun _ h => nomatch h⟩
    · refine ⟨by show 206 ≤ 249; decide, fun j j1 j2 => ?_⟩
      have ej : j = 7 := Int.le_antisymm j2 j1
      subst ej
      exact ⟨(show gm_ir (M 206 7) from ⟨by omega, by omega⟩), (show -1 ≤ M 206 7 by omega), (show M 206 7 ≤ -1 by omega), fun _ h => nomatch h⟩
/-- a step, however a traveller stands -/
noncomputable def s32_206 (X : Int → Int) (LX : Nat) : Prop := ck_Ok qL_O X LX 32 q32_206 ∧ ck_Ok qL_O X LX 32 q32n_206 ∧ ck_Ok qL_O X LX 32 q32m_206
theorem q32_206_c (hS : s32_206 X LX) (hd : 13 ≤ d) (hF : gm_Fx qL_O 249 K R M) (h8 : R 3 8 = 246) (hs : SPc 206 i M) (hi : i ≤ 299) (q : ∀ K2 R2 M2, gm_Fx qL_O 249 K2 R2 M2 → ck_fr q32_206_W 249 K R M 249 K2 R2 M2 → SPc 206 (i + 1) M2 → Q (.inl none) 249 K2 R2 M2) : gm_Wp X LX d 0 0 32 0 (gm_ent 32 [gm_vr 206]) [] 249 K R M Q := by
  obtain ⟨hc, s5, s7⟩ := hs
  rcases hc with ⟨s2, r0, i0⟩ | ⟨s2, r0, i0⟩
  · exact q32a_206_c hS.1 hd hF h8 s2 ⟨r0, s5⟩ s7 ⟨i0, hi⟩ (fun K2 R2 M2 hF2 hf2 e2 e5 e7 => q K2 R2 M2 hF2 hf2 ⟨Or.inl ⟨by rw [e2]; exact s2, e5.1, by omega⟩, e5.2, e7⟩)
  · by_cases hm : i = -1
    · exact q32d_206_c hS.2.2 hd hF h8 ⟨by omega, by omega⟩ ⟨r0, s5⟩ s7 ⟨by omega, by omega⟩ (fun K2 R2 M2 hF2 hf2 e2 e5 e7 => q K2 R2 M2 hF2 hf2 ⟨Or.inr ⟨by rw [e2]; exact s2, e5.1, by omega⟩, e5.2, e7⟩)
    · exact q32b_206_c hS.2.1 hd hF h8 ⟨by omega, by omega⟩ ⟨r0, s5⟩ s7 ⟨by omega, hi⟩ (fun K2 R2 M2 hF2 hf2 e2 e5 e7 => q K2 R2 M2 hF2 hf2 ⟨Or.inr ⟨by rw [e2]; exact s2, e5.1, by omega⟩, e5.2, e7⟩)
def q30_206 : ck_Sum := ((14, 0, 0), 249, [.inr (.inr (.inl 206)), .inl (0, 299, [])], ([], [(3, 8, 246)], [(206, 2, 2, (0, 6, [])), (206, 5, 5, (0, 300, [])), (206, 7, 7, (0, 299, []))]), q32_206_W, [(.inr (some (.inl ((-1), 299, []))), 249, ([], [], []))])
theorem fr0_206 {n2 : Nat} {K2 : gm_K} {R2 : gm_R} {M2 : gm_M} (h : ck_fr q32_206_W 249 K0 R0 M0 249 K R M) (h2 : ck_fr ([], []) 249 K R M n2 K2 R2 M2) : ck_fr q32_206_W 249 K0 R0 M0 n2 K2 R2 M2 := ⟨h2.1, fun k hk => (h2.2.1 k hk).trans (h.2.1 k hk), fun k j hk hw => (h2.2.2.1 k j hk (fun _ h => nomatch h)).trans (h.2.2.1 k j hk hw), fun k j hk hw => (h2.2.2.2 k j hk (fun h => nomatch h)).trans (h.2.2.2 k j hk hw)⟩
theorem fr1_206 {n2 : Nat} {K2 : gm_K} {R2 : gm_R} {M2 : gm_M} (h : ck_fr q32_206_W 249 K0 R0 M0 249 K R M) (h2 : ck_fr q32_206_W 249 K R M n2 K2 R2 M2) : ck_fr q32_206_W 249 K0 R0 M0 n2 K2 R2 M2 := ⟨h2.1, fun k hk => (h2.2.1 k hk).trans (h.2.1 k hk), fun k j hk hw => (h2.2.2.1 k j hk hw).trans (h.2.2.1 k j hk hw), fun k j hk hw => (h2.2.2.2 k j hk hw).trans (h.2.2.2 k j hk hw)⟩
theorem sp0_206 {n2 : Nat} {K2 : gm_K} {R2 : gm_R} {M2 : gm_M} (h2 : ck_fr ([], []) 249 K R M n2 K2 R2 M2) (hs : SPc 206 i M) : SPc 206 i M2 := by
  have e : ∀ j, M2 206 j = M 206 j := fun j => h2.2.2.1 206 j (by decide) (fun _ h => nomatch h)
  unfold SPc at hs ⊢
  rw [e, e, e]
  exact hs
/-- runOut's loop -/
theorem q30_206_l (hS : s32_206 X LX) (hd : 14 ≤ d) (hl : 0 ≤ last ∧ last ≤ 299) (h80 : R0 3 8 = 246) (hq : ∀ v K2 R2 M2, -1 ≤ v → v ≤ 299 → gm_Fx qL_O 249 K2 R2 M2 → ck_fr q32_206_W 249 K0 R0 M0 249 K2 R2 M2 → Q (.inl (some (gm_vi v))) 249 K2 R2 M2) : ∀ (u : Nat) (i : Int) (K : gm_K) (R : gm_R) (M : gm_M), i + (u : Int) = 300 → -1 ≤ i → SPc 206 i M → gm_Fx qL_O 249 K R M → ck_fr q32_206_W 249 K0 R0 M0 249 K R M → gm_Wp X LX d 0 0 30 5 [some (gm_vr 206), some (gm_vi last), some (gm_vi i)] [] 249 K R M Q := by
  intro u
  induction u with
  | zero =>
    intro i K R M hu hi hs hF hfr
    refine gm_sz (gm_p_load (pc := 5) (i := .iload_n 2) (sr := 0) (j := 2) (by decide +kernel) rfl rfl rfl) ?_
    refine gm_sz (gm_p_load (pc := 6) (i := .iload_n 1) (sr := 0) (j := 1) (by decide +kernel) rfl rfl rfl) ?_
    refine fw_ict (cc := .gt) (pc := 7) (off := 22) (by decide +kernel) (by decide) ⟨by omega, by omega⟩ ⟨by omega, by omega⟩ (show i > last by omega) ?_
    refine gm_sz (gm_p_const (pc := 29) (i := .iconst (-1)) (v := gm_vi (-1)) (by decide +kernel) (by decide +kernel)) ?_
    exact gm_r_int (pc := 30) (by decide +kernel) (Or.inl (by decide +kernel)) (hq (-1) _ _ _ (Int.le_refl _) (by decide) hF hfr)
  | succ u ih =>
    intro i K R M hu hi hs hF hfr
    have kc : (1 ≤ 206 ∧ 206 ≤ 249) ∧ (K 206).1 = 5 + 4 := ⟨⟨by decide, by decide⟩, by rw [(hF.1 206 (9, 0) rfl).2.2]⟩
    refine gm_sz (gm_p_load (pc := 5) (i := .iload_n 2) (sr := 0) (j := 2) (by decide +kernel) rfl rfl rfl) ?_
    refine gm_sz (gm_p_load (pc := 6) (i := .iload_n 1) (sr := 0) (j := 1) (by decide +kernel) rfl rfl rfl) ?_
    refine fw_ic (cc := .gt) (pc := 7) (off := 22) (by decide +kernel) (by decide) ⟨by omega, by omega⟩ ⟨by omega, by omega⟩ (fun hp => ?_) (fun hp => ?_)
    · refine gm_sz (gm_p_const (pc := 29) (i := .iconst (-1)) (v := gm_vi (-1)) (by decide +kernel) (by decide +kernel)) ?_
      exact gm_r_int (pc := 30) (by decide +kernel) (Or.inl (by decide +kernel)) (hq (-1) _ _ _ (Int.le_refl _) (by decide) hF hfr)
    · have hp : ¬ last < i := hp
      refine gm_sz (gm_p_load (pc := 10) (i := .aload_n 0) (sr := 2) (j := 0) (by decide +kernel) rfl rfl rfl) ?_
      refine gm_c_virt (k := 206) (ci := 5) (mj := 31) (ix := 68) (pc := 11) (as := []) (st := []) (d' := 0) (bc' := 0) (bs' := 0) (by decide +kernel) (by decide +kernel) (by decide +kernel) (by decide +kernel) kc.1 kc.2 (by decide) (by decide +kernel) (show 0 = gm_na 31 by decide +kernel) fw_c0 (show 0 + 1 ≤ gm_ml 31 by decide +kernel) (Nat.le_of_ble_eq_true rfl) (by omega) (Nat.zero_le _) (Nat.zero_le _) ?_
      refine q31_206_c hF (spc_b hs).1 (fun v K2 R2 M2 hv hF2 hf2 => ?_)
      show gm_Wp X LX d 0 0 30 14 [some (gm_vr 206), some (gm_vi last), some (gm_vi i)] [gm_vi v] 249 K2 R2 M2 Q
      have hfr2 := fr0_206 hfr hf2
      refine fw_if (cc := .eq) (pc := 14) (off := 5) (by decide +kernel) (by decide) (by rcases hv with rfl | rfl <;> exact ⟨by decide, by decide⟩) (fun hp2 => ?_) (fun hp2 => ?_)
      · refine gm_sz (gm_p_load (pc := 19) (i := .aload_n 0) (sr := 2) (j := 0) (by decide +kernel) rfl rfl rfl) ?_
        have kc2 : (1 ≤ 206 ∧ 206 ≤ 249) ∧ (K2 206).1 = 5 + 4 := ⟨⟨by decide, by decide⟩, by rw [(hF2.1 206 (9, 0) rfl).2.2]⟩
        refine gm_c_virt (k := 206) (ci := 5) (mj := 32) (ix := 112) (pc := 20) (as := []) (st := []) (d' := 13) (bc' := 0) (bs' := 0) (by decide +kernel) (by decide +kernel) (by decide +kernel) (by decide +kernel) kc2.1 kc2.2 (by decide) (by decide +kernel) (show 0 = gm_na 32 by decide +kernel) fw_c0 (show 0 + 1 ≤ gm_ml 32 by decide +kernel) (Nat.le_of_ble_eq_true rfl) (by omega) (Nat.zero_le _) (Nat.zero_le _) ?_
        have h82 : R2 3 8 = 246 := (hfr2.2.2.2 3 8 (by decide) (fun h => nomatch h)).trans h80
        refine q32_206_c hS (Nat.le_refl _) hF2 h82 (sp0_206 hf2 hs) (by omega) (fun K3 R3 M3 hF3 hf3 hs3 => ?_)
        show gm_Wp X LX d 0 0 30 23 [some (gm_vr 206), some (gm_vi last), some (gm_vi i)] [] 249 K3 R3 M3 Q
        refine gm_sz (gm_p_iinc (pc := 23) (j := 2) (z := 1) (by decide +kernel) rfl) ?_
        refine gm_sz (gm_p_goto (pc := 26) (off := (-21)) (by decide +kernel) (by decide)) ?_
        exact ih (i + 1) K3 R3 M3 (by omega) (by omega) hs3 hF3 (fr1_206 hfr2 hf3)
      · refine gm_sz (gm_p_load (pc := 17) (i := .iload_n 2) (sr := 0) (j := 2) (by decide +kernel) rfl rfl rfl) ?_
        exact gm_r_int (pc := 18) (by decide +kernel) (Or.inl (by decide +kernel)) (hq i _ _ _ (by omega) (by omega) hF2 hfr2)
theorem sp_f_206 {σ : Nat → Int} {n : Nat} (hf : ck_gf σ ([], [(3, 8, 246)], [(206, 2, 2, (0, 6, [])), (206, 5, 5, (0, 300, [])), (206, 7, 7, (0, 299, []))]) n K R M) : R 3 8 = 246 ∧ SPc 206 (M 206 7) M ∧ (0 ≤ M 206 7 ∧ M 206 7 ≤ 299) ∧ 0 ≤ M 206 2 := by
  have f2 := ((hf.2.2 (206, 2, 2, (0, 6, [])) List.mem_cons_self).2 2 (Int.le_refl _) (Int.le_refl _)).2
  have f5 := ((hf.2.2 (206, 5, 5, (0, 300, [])) (List.mem_cons_of_mem _ List.mem_cons_self)).2 5 (Int.le_refl _) (Int.le_refl _)).2
  have f7 := ((hf.2.2 (206, 7, 7, (0, 299, [])) (List.mem_cons_of_mem _ (List.mem_cons_of_mem _ List.mem_cons_self))).2 7 (Int.le_refl _) (Int.le_refl _)).2
  exact ⟨(hf.2.1 (3, 8, 246) List.mem_cons_self).2, ⟨Or.inl ⟨⟨f2.1, f2.2.1⟩, f5.1, f7.1⟩, f5.2.1, rfl⟩, ⟨f7.1, f7.2.1⟩, f2.1⟩
theorem sp_g_206 {σ : Nat → Int} {n : Nat} (hf : ck_gf σ ([], [(3, 8, 246)], [(206, 2, 2, ((-1), (-1), [])), (206, 5, 5, ((-1), 300, [])), (206, 7, 7, ((-1), 299, []))]) n K R M) : R 3 8 = 246 ∧ SPc 206 (M 206 7) M ∧ (-1 ≤ M 206 7 ∧ M 206 7 ≤ 299) ∧ M 206 2 = -1 := by
  have f2 := ((hf.2.2 (206, 2, 2, ((-1), (-1), [])) List.mem_cons_self).2 2 (Int.le_refl _) (Int.le_refl _)).2
  have f5 := ((hf.2.2 (206, 5, 5, ((-1), 300, [])) (List.mem_cons_of_mem _ List.mem_cons_self)).2 5 (Int.le_refl _) (Int.le_refl _)).2
  have f7 := ((hf.2.2 (206, 7, 7, ((-1), 299, [])) (List.mem_cons_of_mem _ (List.mem_cons_of_mem _ List.mem_cons_self))).2 7 (Int.le_refl _) (Int.le_refl _)).2
  exact ⟨(hf.2.1 (3, 8, 246) List.mem_cons_self).2, ⟨Or.inr ⟨Int.le_antisymm f2.2.1 f2.1, f5.1, f7.1⟩, f5.2.1, rfl⟩, ⟨f7.1, f7.2.1⟩, Int.le_antisymm f2.2.1 f2.1⟩
theorem q30_206_s (hS : s32_206 X LX) : ck_Ok qL_O X LX 30 q30_206 := by
  intro d σ vs n K R M hd hn hvs hσ hF hf
  obtain ⟨v0, w0, rfl, g0, v1, w1, rfl, ⟨l, rfl, hl, l0, l1, -⟩, g4⟩ := hvs
  have g4 : w1 = [] := g4
  subst g4
  have g0 : v0 = gm_vr 206 := g0
  subst g0
  have l0 : (0 : Int) ≤ l := l0
  have l1 : l ≤ (299 : Int) := l1
  have hn : n = 249 := hn
  subst hn
  obtain ⟨h8, hs, ⟨a0, a1⟩, a2⟩ := sp_f_206 hf
  refine gm_sz (gm_p_load (pc := 0) (i := .aload_n 0) (sr := 2) (j := 0) (by decide +kernel) rfl rfl rfl) ?_
  refine gm_sz (fw_gi (pc := 1) (ix := 28) (ci := 5) (j := 7) (x := M 206 7) (by decide +kernel) (e0k (e0F (pl_o (qL_p hF))) (k := 206) (c := 5) (by decide +kernel)) (by decide +kernel) (by decide +kernel) rfl) ?_
  refine gm_sz (gm_p_stor (pc := 4) (i := .istore_n 2) (sr := 0) (j := 2) (by decide +kernel) rfl (show 3 ≤ _ from Nat.le_of_ble_eq_true rfl) rfl) ?_
  exact q30_206_l hS hd ⟨l0, l1⟩ h8 (fun v K2 R2 M2 v0 v1 hF2 hfr2 => ⟨hF2, hfr2, _, List.mem_cons_self, ⟨v, rfl, ⟨by omega, by omega⟩, v0, v1, (fun _ h => nomatch h)⟩, rfl, (fun _ h => nomatch h), (fun _ h => nomatch h), (fun _ h => nomatch h)⟩) (300 - M 206 7).toNat (M 206 7) K R M (by omega) (by omega) hs hF ck_fr_0
def q30n_206 : ck_Sum := ((14, 0, 0), 249, [.inr (.inr (.inl 206)), .inl (0, 299, [])], ([], [(3, 8, 246)], [(206, 2, 2, ((-1), (-1), [])), (206, 5, 5, ((-1), 300, [])), (206, 7, 7, ((-1), 299, []))]), q32_206_W, [(.inr (some (.inl ((-1), 299, []))), 249, ([], [], []))])
theorem q30n_206_s (hS : s32_206 X LX) : ck_Ok qL_O X LX 30 q30n_206 := by
  intro d σ vs n K R M hd hn hvs hσ hF hf
  obtain ⟨v0, w0, rfl, g0, v1, w1, rfl, ⟨l, rfl, hl, l0, l1, -⟩, g4⟩ := hvs
  have g4 : w1 = [] := g4
  subst g4
  have g0 : v0 = gm_vr 206 := g0
  subst g0
  have l0 : (0 : Int) ≤ l := l0
  have l1 : l ≤ (299 : Int) := l1
  have hn : n = 249 := hn
  subst hn
  obtain ⟨h8, hs, ⟨a0, a1⟩, a2⟩ := sp_g_206 hf
  refine gm_sz (gm_p_load (pc := 0) (i := .aload_n 0) (sr := 2) (j := 0) (by decide +kernel) rfl rfl rfl) ?_
  refine gm_sz (fw_gi (pc := 1) (ix := 28) (ci := 5) (j := 7) (x := M 206 7) (by decide +kernel) (e0k (e0F (pl_o (qL_p hF))) (k := 206) (c := 5) (by decide +kernel)) (by decide +kernel) (by decide +kernel) rfl) ?_
  refine gm_sz (gm_p_stor (pc := 4) (i := .istore_n 2) (sr := 0) (j := 2) (by decide +kernel) rfl (show 3 ≤ _ from Nat.le_of_ble_eq_true rfl) rfl) ?_
  exact q30_206_l hS hd ⟨l0, l1⟩ h8 (fun v K2 R2 M2 v0 v1 hF2 hfr2 => ⟨hF2, hfr2, _, List.mem_cons_self, ⟨v, rfl, ⟨by omega, by omega⟩, v0, v1, (fun _ h => nomatch h)⟩, rfl, (fun _ h => nomatch h), (fun _ h => nomatch h), (fun _ h => nomatch h)⟩) (300 - M 206 7).toNat (M 206 7) K R M (by omega) (by omega) hs hF ck_fr_0
def q148_206 : ck_Sum := ((14, 0, 0), 249, [.inr (.inr (.inl 206)), .inl (0, 299, [])], ([], [(3, 8, 246)], [(206, 2, 2, (0, 6, [])), (206, 5, 5, (0, 300, [])), (206, 7, 7, (0, 299, []))]), q32_206_W, [(.inr none, 249, ([], [], [(206, 5, 5, (0, 300, [])), (206, 7, 7, (0, 299, []))]))])
theorem q148_206_l {mx : Int} (hS : s32_206 X LX) (hd : 14 ≤ d) (hl : 0 ≤ last ∧ last ≤ 299) (hmx : last ≤ mx) (h80 : R0 3 8 = 246) (hq : ∀ i K2 R2 M2, -1 ≤ i → i ≤ 299 → last ≤ i → i ≤ mx → SPc 206 i M2 → gm_Fx qL_O 249 K2 R2 M2 → ck_fr q32_206_W 249 K0 R0 M0 249 K2 R2 M2 → Q (.inl none) 249 K2 R2 M2) : ∀ (u : Nat) (i : Int) (K : gm_K) (R : gm_R) (M : gm_M), i + (u : Int) = 299 → -1 ≤ i → i ≤ mx → SPc 206 i M → gm_Fx qL_O 249 K R M → ck_fr q32_206_W 249 K0 R0 M0 249 K R M → gm_Wp X LX d 0 0 148 5 [some (gm_vr 206), some (gm_vi last), some (gm_vi i)] [] 249 K R M Q := by
  intro u
  induction u with
  | zero =>
    intro i K R M hu hi him hs hF hfr
    refine gm_sz (gm_p_load (pc := 5) (i := .iload_n 2) (sr := 0) (j := 2) (by decide +kernel) rfl rfl rfl) ?_
    refine gm_sz (gm_p_load (pc := 6) (i := .iload_n 1) (sr := 0) (j := 1) (by decide +kernel) rfl rfl rfl) ?_
    refine fw_ict (cc := .ge) (pc := 7) (off := 13) (by decide +kernel) (by decide) ⟨by omega, by omega⟩ ⟨by omega, by omega⟩ (show last ≤ i by omega) ?_
    exact gm_r_void (pc := 20) (by decide +kernel) (by decide +kernel) (hq i _ _ _ hi (by omega) (by omega) him hs hF hfr)
  | succ u ih =>
    intro i K R M hu hi him hs hF hfr
    refine gm_sz (gm_p_load (pc := 5) (i := .iload_n 2) (sr := 0) (j := 2) (by decide +kernel) rfl rfl rfl) ?_
    refine gm_sz (gm_p_load (pc := 6) (i := .iload_n 1) (sr := 0) (j := 1) (by decide +kernel) rfl rfl rfl) ?_
    refine fw_ic (cc := .ge) (pc := 7) (off := 13) (by decide +kernel) (by decide) ⟨by omega, by omega⟩ ⟨by omega, by omega⟩ (fun hp => ?_) (fun hp => ?_)
    · have hp : last ≤ i := hp
      exact gm_r_void (pc := 20) (by decide +kernel) (by decide +kernel) (hq i _ _ _ hi (by omega) hp him hs hF hfr)
    · have hp : ¬ last ≤ i := hp
      refine gm_sz (gm_p_load (pc := 10) (i := .aload_n 0) (sr := 2) (j := 0) (by decide +kernel) rfl rfl rfl) ?_
      have kc2 : (1 ≤ 206 ∧ 206 ≤ 249) ∧ (K 206).1 = 5 + 4 := ⟨⟨by decide, by decide⟩, by rw [(hF.1 206 (9, 0) rfl).2.2]⟩
      refine gm_c_virt (k := 206) (ci := 5) (mj := 32) (ix := 112) (pc := 11) (as := []) (st := []) (d' := 13) (bc' := 0) (bs' := 0) (by decide +kernel) (by decide +kernel) (by decide +kernel) (by decide +kernel) kc2.1 kc2.2 (by decide) (by decide +kernel) (show 0 = gm_na 32 by decide +kernel) fw_c0 (show 0 + 1 ≤ gm_ml 32 by decide +kernel) (Nat.le_of_ble_eq_true rfl) (by omega) (Nat.zero_le _) (Nat.zero_le _) ?_
      have h82 : R 3 8 = 246 := (hfr.2.2.2 3 8 (by decide) (fun h => nomatch h)).trans h80
      refine q32_206_c hS (Nat.le_refl _) hF h82 hs (by omega) (fun K3 R3 M3 hF3 hf3 hs3 => ?_)
      show gm_Wp X LX d 0 0 148 14 [some (gm_vr 206), some (gm_vi last), some (gm_vi i)] [] 249 K3 R3 M3 Q
      refine gm_sz (gm_p_iinc (pc := 14) (j := 2) (z := 1) (by decide +kernel) rfl) ?_
      refine gm_sz (gm_p_goto (pc := 17) (off := (-12)) (by decide +kernel) (by decide)) ?_
      exact ih (i + 1) K3 R3 M3 (by omega) (by omega) (by omega) hs3 hF3 (fr1_206 hfr hf3)
theorem q148_206_s (hS : s32_206 X LX) : ck_Ok qL_O X LX 148 q148_206 := by
  intro d σ vs n K R M hd hn hvs hσ hF hf
  obtain ⟨v0, w0, rfl, g0, v1, w1, rfl, ⟨l, rfl, hl, l0, l1, -⟩, g4⟩ := hvs
  have g4 : w1 = [] := g4
  subst g4
  have g0 : v0 = gm_vr 206 := g0
  subst g0
  have l0 : (0 : Int) ≤ l := l0
  have l1 : l ≤ (299 : Int) := l1
  have hn : n = 249 := hn
  subst hn
  obtain ⟨h8, hs, ⟨a0, a1⟩, a2⟩ := sp_f_206 hf
  refine gm_sz (gm_p_load (pc := 0) (i := .aload_n 0) (sr := 2) (j := 0) (by decide +kernel) rfl rfl rfl) ?_
  refine gm_sz (fw_gi (pc := 1) (ix := 28) (ci := 5) (j := 7) (x := M 206 7) (by decide +kernel) (e0k (e0F (pl_o (qL_p hF))) (k := 206) (c := 5) (by decide +kernel)) (by decide +kernel) (by decide +kernel) rfl) ?_
  refine gm_sz (gm_p_stor (pc := 4) (i := .istore_n 2) (sr := 0) (j := 2) (by decide +kernel) rfl (show 3 ≤ _ from Nat.le_of_ble_eq_true rfl) rfl) ?_
  refine q148_206_l (mx := 299) hS hd ⟨l0, l1⟩ l1 h8 (fun i K2 R2 M2 i0 i1 _ _ hs2 hF2 hfr2 => ⟨hF2, hfr2, _, List.mem_cons_self, trivial, rfl, (fun _ h => nomatch h), (fun _ h => nomatch h), fun q hq => ?_⟩) (299 - M 206 7).toNat (M 206 7) K R M (by omega) (by omega) (by omega) hs hF ck_fr_0
  have e2 : M2 206 2 = M 206 2 := hfr2.2.2.1 206 2 (by decide) (fun w hw hh => absurd hh (of_decide_eq_true (List.all_eq_true.mp (show q32_206_W.1.all (fun w => decide (¬ (w.1 = 206 ∧ w.2.1 ≤ 2 ∧ 2 ≤ w.2.2))) = true by decide) w hw)))
  have b5 : 0 ≤ M2 206 5 ∧ M2 206 5 ≤ 300 := by
    have z2 := hs.1
    have z3 := hs2
    unfold SPc at z3
    omega
  have b7 : M2 206 7 = i ∧ 0 ≤ i := by
    have z2 := hs.1
    have z3 := hs2
    unfold SPc at z3
    omega
  simp only [List.mem_cons, List.not_mem_nil, or_false] at hq
  rcases hq with rfl | rfl
  · refine ⟨by show 206 ≤ 249; decide, fun j j1 j2 => ?_⟩
    have ej : j = 5 := Int.le_antisymm j2 j1
    subst ej
    exact ⟨(show gm_ir (M2 206 5) from ⟨by omega, by omega⟩), b5.1, b5.2, fun _ h => nomatch h⟩
  · refine ⟨by show 206 ≤ 249; decide, fun j j1 j2 => ?_⟩
    have ej : j = 7 := Int.le_antisymm j2 j1
    subst ej
    exact ⟨(show gm_ir (M2 206 7) from ⟨by omega, by omega⟩), (show 0 ≤ M2 206 7 by omega), (show M2 206 7 ≤ 299 by omega), fun _ h => nomatch h⟩
def q148n_206 : ck_Sum := ((14, 0, 0), 249, [.inr (.inr (.inl 206)), .inl (0, 299, [])], ([], [(3, 8, 246)], [(206, 2, 2, ((-1), (-1), [])), (206, 5, 5, ((-1), 300, [])), (206, 7, 7, ((-1), 299, []))]), q32_206_W, [(.inr none, 249, ([], [], [(206, 5, 5, ((-1), 300, [])), (206, 7, 7, ((-1), 299, []))]))])
theorem q148n_206_s (hS : s32_206 X LX) : ck_Ok qL_O X LX 148 q148n_206 := by
  intro d σ vs n K R M hd hn hvs hσ hF hf
  obtain ⟨v0, w0, rfl, g0, v1, w1, rfl, ⟨l, rfl, hl, l0, l1, -⟩, g4⟩ := hvs
  have g4 : w1 = [] := g4
  subst g4
  have g0 : v0 = gm_vr 206 := g0
  subst g0
  have l0 : (0 : Int) ≤ l := l0
  have l1 : l ≤ (299 : Int) := l1
  have hn : n = 249 := hn
  subst hn
  obtain ⟨h8, hs, ⟨a0, a1⟩, a2⟩ := sp_g_206 hf
  refine gm_sz (gm_p_load (pc := 0) (i := .aload_n 0) (sr := 2) (j := 0) (by decide +kernel) rfl rfl rfl) ?_
  refine gm_sz (fw_gi (pc := 1) (ix := 28) (ci := 5) (j := 7) (x := M 206 7) (by decide +kernel) (e0k (e0F (pl_o (qL_p hF))) (k := 206) (c := 5) (by decide +kernel)) (by decide +kernel) (by decide +kernel) rfl) ?_
  refine gm_sz (gm_p_stor (pc := 4) (i := .istore_n 2) (sr := 0) (j := 2) (by decide +kernel) rfl (show 3 ≤ _ from Nat.le_of_ble_eq_true rfl) rfl) ?_
  refine q148_206_l (mx := 299) hS hd ⟨l0, l1⟩ l1 h8 (fun i K2 R2 M2 i0 i1 _ _ hs2 hF2 hfr2 => ⟨hF2, hfr2, _, List.mem_cons_self, trivial, rfl, (fun _ h => nomatch h), (fun _ h => nomatch h), fun q hq => ?_⟩) (299 - M 206 7).toNat (M 206 7) K R M (by omega) (by omega) (by omega) hs hF ck_fr_0
  have e2 : M2 206 2 = M 206 2 := hfr2.2.2.1 206 2 (by decide) (fun w hw hh => absurd hh (of_decide_eq_true (List.all_eq_true.mp (show q32_206_W.1.all (fun w => decide (¬ (w.1 = 206 ∧ w.2.1 ≤ 2 ∧ 2 ≤ w.2.2))) = true by decide) w hw)))
  have b5 : -1 ≤ M2 206 5 ∧ M2 206 5 ≤ 300 := by
    have z2 := hs.1
    have z3 := hs2
    unfold SPc at z3
    omega
  have b7 : M2 206 7 = i ∧ -1 ≤ i := by
    have z2 := hs.1
    have z3 := hs2
    unfold SPc at z3
    omega
  simp only [List.mem_cons, List.not_mem_nil, or_false] at hq
  rcases hq with rfl | rfl
  · refine ⟨by show 206 ≤ 249; decide, fun j j1 j2 => ?_⟩
    have ej : j = 5 := Int.le_antisymm j2 j1
    subst ej
    exact ⟨(show gm_ir (M2 206 5) from ⟨by omega, by omega⟩), b5.1, b5.2, fun _ h => nomatch h⟩
  · refine ⟨by show 206 ≤ 249; decide, fun j j1 j2 => ?_⟩
    have ej : j = 7 := Int.le_antisymm j2 j1
    subst ej
    exact ⟨(show gm_ir (M2 206 7) from ⟨by omega, by omega⟩), (show -1 ≤ M2 206 7 by omega), (show M2 206 7 ≤ 299 by omega), fun _ h => nomatch h⟩
theorem q31_207_c (hF : gm_Fx qL_O 249 K R M) (h5 : -1 ≤ M 207 5 ∧ M 207 5 ≤ 300) (q : ∀ v K2 R2 M2, v = 0 ∨ v = 1 → gm_Fx qL_O 249 K2 R2 M2 → ck_fr ([], []) 249 K R M 249 K2 R2 M2 → Q (.inl (some (gm_vi v))) 249 K2 R2 M2) : gm_Wp X LX d 0 0 31 0 (gm_ent 31 [gm_vr 207]) [] 249 K R M Q := by
  have hσ := ck_sn_s (σ := fun _ => 0) (M := M) qL_nmu
  refine gm_Wp_mono (fun o n' K' R' M' hq => ?_) (q31n_207_s d (ck_sn qL_O (fun _ => 0) M) [gm_vr 207] 249 K R M (Nat.zero_le _) rfl ⟨_, _, rfl, rfl, rfl⟩ hσ hF ⟨(fun _ h => nomatch h), (fun _ h => nomatch h), fun q hq => ?_⟩)
  · obtain ⟨hF2, hfr, oc, hoc, ho, hn, -⟩ := hq
    have hoc : oc ∈ [_, _] := hoc
    simp only [List.mem_cons, List.not_mem_nil, or_false] at hoc
    rcases hoc with rfl | rfl
    · have hn : n' = 249 := hn
      subst hn
      rcases o with (_ | v) | x
      · exact absurd ho id
      · obtain ⟨y, rfl, -, y0, y1, -⟩ := ho
        exact q y _ _ _ (Or.inl (Int.le_antisymm y1 y0)) hF2 hfr
      · exact absurd ho id
    · have hn : n' = 249 := hn
      subst hn
      rcases o with (_ | v) | x
      · exact absurd ho id
      · obtain ⟨y, rfl, -, y0, y1, -⟩ := ho
        exact q y _ _ _ (Or.inr (Int.le_antisymm y1 y0)) hF2 hfr
      · exact absurd ho id
  · rw [List.mem_singleton.mp hq]
    refine ⟨by show 207 ≤ 249; decide, fun j j1 j2 => ?_⟩
    have ej : j = 5 := Int.le_antisymm j2 j1
    subst ej
    exact ⟨(show gm_ir (M 207 5) from ⟨by omega, by omega⟩), h5.1, h5.2, fun _ h => nomatch h⟩
def q32_207_W : List (Nat × Int × Int) × List (Nat × Int) := ([(200, 6, 6), (204, 0, 9), (205, 0, 14849), (207, 5, 8)], [])
theorem q32a_207_c (hS : ck_Ok qL_O X LX 32 q32_207) (hd : 13 ≤ d) (hF : gm_Fx qL_O 249 K R M) (h8 : R 3 8 = 246) (s2 : 0 ≤ M 207 2 ∧ M 207 2 ≤ 6) (s5 : 0 ≤ M 207 5 ∧ M 207 5 ≤ 300) (s7 : M 207 7 = i) (hi : 0 ≤ i ∧ i ≤ 299) (q : ∀ K2 R2 M2, gm_Fx qL_O 249 K2 R2 M2 → ck_fr q32_207_W 249 K R M 249 K2 R2 M2 → M2 207 2 = M 207 2 → (0 ≤ M2 207 5 ∧ M2 207 5 ≤ 300) → M2 207 7 = i + 1 → Q (.inl none) 249 K2 R2 M2) : gm_Wp X LX d 0 0 32 0 (gm_ent 32 [gm_vr 207]) [] 249 K R M Q := by
  have hσ := ck_sn_s (σ := fun _ => 0) (M := M) qL_nmu
  have hnm : ck_sn qL_O (fun _ => 0) M 29 = M 207 7 := hσ (29, 207, 7) (by decide)
  refine gm_Wp_mono (fun o n' K' R' M' hq => ?_) (hS d (ck_sn qL_O (fun _ => 0) M) [gm_vr 207] 249 K R M hd rfl ⟨_, _, rfl, rfl, rfl⟩ hσ hF ⟨(fun _ h => nomatch h), fun q hq => ?_, fun q hq => ?_⟩)
  · obtain ⟨hF2, hfr, oc, hoc, ho, hn, hf⟩ := hq
    have hoc := List.mem_singleton.mp hoc
    subst hoc
    have hn : n' = 249 := hn
    subst hn
    rcases o with (_ | v) | x
    · have f5 := ((hf.2.2 (207, 5, 5, (0, 300, [])) List.mem_cons_self).2 5 (Int.le_refl _) (Int.le_refl _)).2
      have f7 := ((hf.2.2 (207, 7, 7, (1, 300, [(29, 1)])) (List.mem_cons_of_mem _ List.mem_cons_self)).2 7 (Int.le_refl _) (Int.le_refl _)).2.2.2
      have e7 : M' 207 7 = ck_sn qL_O (fun _ => 0) M 29 + 1 := (f7 (29, 1) List.mem_cons_self).1 (by decide)
      have e2 : M' 207 2 = M 207 2 := hfr.2.2.1 207 2 (by decide) (fun w hw hh => absurd hh (of_decide_eq_true (List.all_eq_true.mp (show q32_207_W.1.all (fun w => decide (¬ (w.1 = 207 ∧ w.2.1 ≤ 2 ∧ 2 ≤ w.2.2))) = true by decide) w hw)))
      exact q _ _ _ hF2 hfr e2 ⟨f5.1, f5.2.1⟩ (by rw [e7, hnm, s7])
    · exact absurd ho id
    · exact absurd ho id
  · rw [List.mem_singleton.mp hq]
    exact ⟨by show 3 ≤ 249; decide, h8⟩
  · simp only [List.mem_cons, List.not_mem_nil, or_false, q32_207] at hq
    rcases hq with rfl | rfl | rfl
    · refine ⟨by show 207 ≤ 249; decide, fun j j1 j2 => ?_⟩
      have ej : j = 2 := Int.le_antisymm j2 j1
      subst ej
      exact ⟨(show gm_ir (M 207 2) from ⟨by omega, by omega⟩), s2.1, s2.2, fun _ h => nomatch h⟩
    · refine ⟨by show 207 ≤ 249; decide, fun j j1 j2 => ?_⟩
      have ej : j = 5 := Int.le_antisymm j2 j1
      subst ej
      exact ⟨(show gm_ir (M 207 5) from ⟨by omega, by omega⟩), s5.1, s5.2, fun _ h => nomatch h⟩
    · refine ⟨by show 207 ≤ 249; decide, fun j j1 j2 => ?_⟩
      have ej : j = 7 := Int.le_antisymm j2 j1
      subst ej
      exact ⟨(show gm_ir (M 207 7) from ⟨by omega, by omega⟩), (show 0 ≤ M 207 7 by omega), (show M 207 7 ≤ 299 by omega), ck_gt1 (s := 29) (z := 0) (by decide) (by rw [hnm, Int.add_zero])⟩
theorem q32b_207_c (hS : ck_Ok qL_O X LX 32 q32n_207) (hd : 13 ≤ d) (hF : gm_Fx qL_O 249 K R M) (h8 : R 3 8 = 246) (s2 : -1 ≤ M 207 2 ∧ M 207 2 ≤ -1) (s5 : -1 ≤ M 207 5 ∧ M 207 5 ≤ 300) (s7 : M 207 7 = i) (hi : 0 ≤ i ∧ i ≤ 299) (q : ∀ K2 R2 M2, gm_Fx qL_O 249 K2 R2 M2 → ck_fr q32_207_W 249 K R M 249 K2 R2 M2 → M2 207 2 = M 207 2 → (-1 ≤ M2 207 5 ∧ M2 207 5 ≤ 300) → M2 207 7 = i + 1 → Q (.inl none) 249 K2 R2 M2) : gm_Wp X LX d 0 0 32 0 (gm_ent 32 [gm_vr 207]) [] 249 K R M Q := by
  have hσ := ck_sn_s (σ := fun _ => 0) (M := M) qL_nmu
  have hnm : ck_sn qL_O (fun _ => 0) M 29 = M 207 7 := hσ (29, 207, 7) (by decide)
  refine gm_Wp_mono (fun o n' K' R' M' hq => ?_) (hS d (ck_sn qL_O (fun _ => 0) M) [gm_vr 207] 249 K R M hd rfl ⟨_, _, rfl, rfl, rfl⟩ hσ hF ⟨(fun _ h => nomatch h), fun q hq => ?_, fun q hq => ?_⟩)
  · obtain ⟨hF2, hfr, oc, hoc, ho, hn, hf⟩ := hq
    have hoc := List.mem_singleton.mp hoc
    subst hoc
    have hn : n' = 249 := hn
    subst hn
    rcases o with (_ | v) | x
    · have f5 := ((hf.2.2 (207, 5, 5, ((-1), 300, [])) List.mem_cons_self).2 5 (Int.le_refl _) (Int.le_refl _)).2
      have f7 := ((hf.2.2 (207, 7, 7, (1, 300, [(29, 1)])) (List.mem_cons_of_mem _ List.mem_cons_self)).2 7 (Int.le_refl _) (Int.le_refl _)).2.2.2
      have e7 : M' 207 7 = ck_sn qL_O (fun _ => 0) M 29 + 1 := (f7 (29, 1) List.mem_cons_self).1 (by decide)
      have e2 : M' 207 2 = M 207 2 := hfr.2.2.1 207 2 (by decide) (fun w hw hh => absurd hh (of_decide_eq_true (List.all_eq_true.mp (show q32_207_W.1.all (fun w => decide (¬ (w.1 = 207 ∧ w.2.1 ≤ 2 ∧ 2 ≤ w.2.2))) = true by decide) w hw)))
      exact q _ _ _ hF2 hfr e2 ⟨f5.1, f5.2.1⟩ (by rw [e7, hnm, s7])
    · exact absurd ho id
    · exact absurd ho id
  · rw [List.mem_singleton.mp hq]
    exact ⟨by show 3 ≤ 249; decide, h8⟩
  · simp only [List.mem_cons, List.not_mem_nil, or_false, q32n_207] at hq
    rcases hq with rfl | rfl | rfl
    · refine ⟨by show 207 ≤ 249; decide, fun j j1 j2 => ?_⟩
      have ej : j = 2 := Int.le_antisymm j2 j1
      subst ej
      exact ⟨(show gm_ir (M 207 2) from ⟨by omega, by omega⟩), s2.1, s2.2, fun _ h => nomatch h⟩
    · refine ⟨by show 207 ≤ 249; decide, fun j j1 j2 => ?_⟩
      have ej : j = 5 := Int.le_antisymm j2 j1
      subst ej
      exact ⟨(show gm_ir (M 207 5) from ⟨by omega, by omega⟩), s5.1, s5.2, fun _ h => nomatch h⟩
    · refine ⟨by show 207 ≤ 249; decide, fun j j1 j2 => ?_⟩
      have ej : j = 7 := Int.le_antisymm j2 j1
      subst ej
      exact ⟨(show gm_ir (M 207 7) from ⟨by omega, by omega⟩), (show 0 ≤ M 207 7 by omega), (show M 207 7 ≤ 299 by omega), ck_gt1 (s := 29) (z := 0) (by decide) (by rw [hnm, Int.add_zero])⟩
theorem q32d_207_c (hS : ck_Ok qL_O X LX 32 q32m_207) (hd : 13 ≤ d) (hF : gm_Fx qL_O 249 K R M) (h8 : R 3 8 = 246) (s2 : -1 ≤ M 207 2 ∧ M 207 2 ≤ -1) (s5 : -1 ≤ M 207 5 ∧ M 207 5 ≤ 300) (s7 : M 207 7 = i) (hi : -1 ≤ i ∧ i ≤ -1) (q : ∀ K2 R2 M2, gm_Fx qL_O 249 K2 R2 M2 → ck_fr q32_207_W 249 K R M 249 K2 R2 M2 → M2 207 2 = M 207 2 → (-1 ≤ M2 207 5 ∧ M2 207 5 ≤ 300) → M2 207 7 = i + 1 → Q (.inl none) 249 K2 R2 M2) : gm_Wp X LX d 0 0 32 0 (gm_ent 32 [gm_vr 207]) [] 249 K R M Q := by
  have hσ := ck_sn_s (σ := fun _ => 0) (M := M) qL_nmu
  refine gm_Wp_mono (fun o n' K' R' M' hq => ?_) (hS d (ck_sn qL_O (fun _ => 0) M) [gm_vr 207] 249 K R M hd rfl ⟨_, _, rfl, rfl, rfl⟩ hσ hF ⟨(fun _ h => nomatch h), fun q hq => ?_, fun q hq => ?_⟩)
  · obtain ⟨hF2, hfr, oc, hoc, ho, hn, hf⟩ := hq
    have hoc := List.mem_singleton.mp hoc
    subst hoc
    have hn : n' = 249 := hn
    subst hn
    rcases o with (_ | v) | x
    · have f5 := ((hf.2.2 (207, 5, 5, ((-1), 300, [])) List.mem_cons_self).2 5 (Int.le_refl _) (Int.le_refl _)).2
      have f7 := ((hf.2.2 (207, 7, 7, (0, 0, [])) (List.mem_cons_of_mem _ List.mem_cons_self)).2 7 (Int.le_refl _) (Int.le_refl _)).2
      have e7 : M' 207 7 = 0 := Int.le_antisymm f7.2.1 f7.1
      have e2 : M' 207 2 = M 207 2 := hfr.2.2.1 207 2 (by decide) (fun w hw hh => absurd hh (of_decide_eq_true (List.all_eq_true.mp (show q32_207_W.1.all (fun w => decide (¬ (w.1 = 207 ∧ w.2.1 ≤ 2 ∧ 2 ≤ w.2.2))) = true by decide) w hw)))
      exact q _ _ _ hF2 hfr e2 ⟨f5.1, f5.2.1⟩ (by rw [e7]; omega)
    · exact absurd ho id
    · exact absurd ho id
  · rw [List.mem_singleton.mp hq]
    exact ⟨by show 3 ≤ 249; decide, h8⟩
  · simp only [List.mem_cons, List.not_mem_nil, or_false, q32m_207] at hq
    rcases hq with rfl | rfl | rfl
    · refine ⟨by show 207 ≤ 249; decide, fun j j1 j2 => ?_⟩
      have ej : j = 2 := Int.le_antisymm j2 j1
      subst ej
      exact ⟨(show gm_ir (M 207 2) from ⟨by omega, by omega⟩), s2.1, s2.2, fun _ h => nomatch h⟩
    · refine ⟨by show 207 ≤ 249; decide, fun j j1 j2 => ?_⟩
      have ej : j = 5 := Int.le_antisymm j2 j1
      subst ej
      exact ⟨(show gm_ir (M 207 5) from ⟨by omega, by omega⟩), s5.1, s5.2, fun _ h => nomatch h⟩
    · refine ⟨by show 207 ≤ 249; decide, fun j j1 j2 => ?_⟩
      have ej : j = 7 := Int.le_antisymm j2 j1
      subst ej
      exact ⟨(show gm_ir (M 207 7) from ⟨by omega, by omega⟩), (show -1 ≤ M 207 7 by omega), (show M 207 7 ≤ -1 by omega), fun _ h => nomatch h⟩
/-- a step, however a traveller stands -/
noncomputable def s32_207 (X : Int → Int) (LX : Nat) : Prop := ck_Ok qL_O X LX 32 q32_207 ∧ ck_Ok qL_O X LX 32 q32n_207 ∧ ck_Ok qL_O X LX 32 q32m_207
theorem q32_207_c (hS : s32_207 X LX) (hd : 13 ≤ d) (hF : gm_Fx qL_O 249 K R M) (h8 : R 3 8 = 246) (hs : SPc 207 i M) (hi : i ≤ 299) (q : ∀ K2 R2 M2, gm_Fx qL_O 249 K2 R2 M2 → ck_fr q32_207_W 249 K R M 249 K2 R2 M2 → SPc 207 (i + 1) M2 → Q (.inl none) 249 K2 R2 M2) : gm_Wp X LX d 0 0 32 0 (gm_ent 32 [gm_vr 207]) [] 249 K R M Q := by
  obtain ⟨hc, s5, s7⟩ := hs
  rcases hc with ⟨s2, r0, i0⟩ | ⟨s2, r0, i0⟩
  · exact q32a_207_c hS.1 hd hF h8 s2 ⟨r0, s5⟩ s7 ⟨i0, hi⟩ (fun K2 R2 M2 hF2 hf2 e2 e5 e7 => q K2 R2 M2 hF2 hf2 ⟨Or.inl ⟨by rw [e2]; exact s2, e5.1, by omega⟩, e5.2, e7⟩)
  · by_cases hm : i = -1
    · exact q32d_207_c hS.2.2 hd hF h8 ⟨by omega, by omega⟩ ⟨r0, s5⟩ s7 ⟨by omega, by omega⟩ (fun K2 R2 M2 hF2 hf2 e2 e5 e7 => q K2 R2 M2 hF2 hf2 ⟨Or.inr ⟨by rw [e2]; exact s2, e5.1, by omega⟩, e5.2, e7⟩)
    · exact q32b_207_c hS.2.1 hd hF h8 ⟨by omega, by omega⟩ ⟨r0, s5⟩ s7 ⟨by omega, hi⟩ (fun K2 R2 M2 hF2 hf2 e2 e5 e7 => q K2 R2 M2 hF2 hf2 ⟨Or.inr ⟨by rw [e2]; exact s2, e5.1, by omega⟩, e5.2, e7⟩)
def q30_207 : ck_Sum := ((14, 0, 0), 249, [.inr (.inr (.inl 207)), .inl (0, 299, [])], ([], [(3, 8, 246)], [(207, 2, 2, (0, 6, [])), (207, 5, 5, (0, 300, [])), (207, 7, 7, (0, 299, []))]), q32_207_W, [(.inr (some (.inl ((-1), 299, []))), 249, ([], [], []))])
theorem fr0_207 {n2 : Nat} {K2 : gm_K} {R2 : gm_R} {M2 : gm_M} (h : ck_fr q32_207_W 249 K0 R0 M0 249 K R M) (h2 : ck_fr ([], []) 249 K R M n2 K2 R2 M2) : ck_fr q32_207_W 249 K0 R0 M0 n2 K2 R2 M2 := ⟨h2.1, fun k hk => (h2.2.1 k hk).trans (h.2.1 k hk), fun k j hk hw => (h2.2.2.1 k j hk (fun _ h => nomatch h)).trans (h.2.2.1 k j hk hw), fun k j hk hw => (h2.2.2.2 k j hk (fun h => nomatch h)).trans (h.2.2.2 k j hk hw)⟩
theorem fr1_207 {n2 : Nat} {K2 : gm_K} {R2 : gm_R} {M2 : gm_M} (h : ck_fr q32_207_W 249 K0 R0 M0 249 K R M) (h2 : ck_fr q32_207_W 249 K R M n2 K2 R2 M2) : ck_fr q32_207_W 249 K0 R0 M0 n2 K2 R2 M2 := ⟨h2.1, fun k hk => (h2.2.1 k hk).trans (h.2.1 k hk), fun k j hk hw => (h2.2.2.1 k j hk hw).trans (h.2.2.1 k j hk hw), fun k j hk hw => (h2.2.2.2 k j hk hw).trans (h.2.2.2 k j hk hw)⟩
theorem sp0_207 {n2 : Nat} {K2 : gm_K} {R2 : gm_R} {M2 : gm_M} (h2 : ck_fr ([], []) 249 K R M n2 K2 R2 M2) (hs : SPc 207 i M) : SPc 207 i M2 := by
  have e : ∀ j, M2 207 j = M 207 j := fun j => h2.2.2.1 207 j (by decide) (fun _ h => nomatch h)
  unfold SPc at hs ⊢
  rw [e, e, e]
  exact hs
/-- runOut's loop -/
theorem q30_207_l (hS : s32_207 X LX) (hd : 14 ≤ d) (hl : 0 ≤ last ∧ last ≤ 299) (h80 : R0 3 8 = 246) (hq : ∀ v K2 R2 M2, -1 ≤ v → v ≤ 299 → gm_Fx qL_O 249 K2 R2 M2 → ck_fr q32_207_W 249 K0 R0 M0 249 K2 R2 M2 → Q (.inl (some (gm_vi v))) 249 K2 R2 M2) : ∀ (u : Nat) (i : Int) (K : gm_K) (R : gm_R) (M : gm_M), i + (u : Int) = 300 → -1 ≤ i → SPc 207 i M → gm_Fx qL_O 249 K R M → ck_fr q32_207_W 249 K0 R0 M0 249 K R M → gm_Wp X LX d 0 0 30 5 [some (gm_vr 207), some (gm_vi last), some (gm_vi i)] [] 249 K R M Q := by
  intro u
  induction u with
  | zero =>
    intro i K R M hu hi hs hF hfr
    refine gm_sz (gm_p_load (pc := 5) (i := .iload_n 2) (sr := 0) (j := 2) (by decide +kernel) rfl rfl rfl) ?_
    refine gm_sz (gm_p_load (pc := 6) (i := .iload_n 1) (sr := 0) (j := 1) (by decide +kernel) rfl rfl rfl) ?_
    refine fw_ict (cc := .gt) (pc := 7) (off := 22) (by decide +kernel) (by decide) ⟨by omega, by omega⟩ ⟨by omega, by omega⟩ (show i > last by omega) ?_
    refine gm_sz (gm_p_const (pc := 29) (i := .iconst (-1)) (v := gm_vi (-1)) (by decide +kernel) (by decide +kernel)) ?_
    exact gm_r_int (pc := 30) (by decide +kernel) (Or.inl (by decide +kernel)) (hq (-1) _ _ _ (Int.le_refl _) (by decide) hF hfr)
  | succ u ih =>
    intro i K R M hu hi hs hF hfr
    have kc : (1 ≤ 207 ∧ 207 ≤ 249) ∧ (K 207).1 = 5 + 4 := ⟨⟨by decide, by decide⟩, by rw [(hF.1 207 (9, 0) rfl).2.2]⟩
    refine gm_sz (gm_p_load (pc := 5) (i := .iload_n 2) (sr := 0) (j := 2) (by decide +kernel) rfl rfl rfl) ?_
    refine gm_sz (gm_p_load (pc := 6) (i := .iload_n 1) (sr := 0) (j := 1) (by decide +kernel) rfl rfl rfl) ?_
    refine fw_ic (cc := .gt) (pc := 7) (off := 22) (by decide +kernel) (by decide) ⟨by omega, by omega⟩ ⟨by omega, by omega⟩ (fun hp => ?_) (fun hp => ?_)
    · refine gm_sz (gm_p_const (pc := 29) (i := .iconst (-1)) (v := gm_vi (-1)) (by decide +kernel) (by decide +kernel)) ?_
      exact gm_r_int (pc := 30) (by decide +kernel) (Or.inl (by decide +kernel)) (hq (-1) _ _ _ (Int.le_refl _) (by decide) hF hfr)
    · have hp : ¬ last < i := hp
      refine gm_sz (gm_p_load (pc := 10) (i := .aload_n 0) (sr := 2) (j := 0) (by decide +kernel) rfl rfl rfl) ?_
      refine gm_c_virt (k := 207) (ci := 5) (mj := 31) (ix := 68) (pc := 11) (as := []) (st := []) (d' := 0) (bc' := 0) (bs' := 0) (by decide +kernel) (by decide +kernel) (by decide +kernel) (by decide +kernel) kc.1 kc.2 (by decide) (by decide +kernel) (show 0 = gm_na 31 by decide +kernel) fw_c0 (show 0 + 1 ≤ gm_ml 31 by decide +kernel) (Nat.le_of_ble_eq_true rfl) (by omega) (Nat.zero_le _) (Nat.zero_le _) ?_
      refine q31_207_c hF (spc_b hs).1 (fun v K2 R2 M2 hv hF2 hf2 => ?_)
      show gm_Wp X LX d 0 0 30 14 [some (gm_vr 207), some (gm_vi last), some (gm_vi i)] [gm_vi v] 249 K2 R2 M2 Q
      have hfr2 := fr0_207 hfr hf2
      refine fw_if (cc := .eq) (pc := 14) (off := 5) (by decide +kernel) (by decide) (by rcases hv with rfl | rfl <;> exact ⟨by decide, by decide⟩) (fun hp2 => ?_) (fun hp2 => ?_)
      · refine gm_sz (gm_p_load (pc := 19) (i := .aload_n 0) (sr := 2) (j := 0) (by decide +kernel) rfl rfl rfl) ?_
        have kc2 : (1 ≤ 207 ∧ 207 ≤ 249) ∧ (K2 207).1 = 5 + 4 := ⟨⟨by decide, by decide⟩, by rw [(hF2.1 207 (9, 0) rfl).2.2]⟩
        refine gm_c_virt (k := 207) (ci := 5) (mj := 32) (ix := 112) (pc := 20) (as := []) (st := []) (d' := 13) (bc' := 0) (bs' := 0) (by decide +kernel) (by decide +kernel) (by decide +kernel) (by decide +kernel) kc2.1 kc2.2 (by decide) (by decide +kernel) (show 0 = gm_na 32 by decide +kernel) fw_c0 (show 0 + 1 ≤ gm_ml 32 by decide +kernel) (Nat.le_of_ble_eq_true rfl) (by omega) (Nat.zero_le _) (Nat.zero_le _) ?_
        have h82 : R2 3 8 = 246 := (hfr2.2.2.2 3 8 (by decide) (fun h => nomatch h)).trans h80
        refine q32_207_c hS (Nat.le_refl _) hF2 h82 (sp0_207 hf2 hs) (by omega) (fun K3 R3 M3 hF3 hf3 hs3 => ?_)
        show gm_Wp X LX d 0 0 30 23 [some (gm_vr 207), some (gm_vi last), some (gm_vi i)] [] 249 K3 R3 M3 Q
        refine gm_sz (gm_p_iinc (pc := 23) (j := 2) (z := 1) (by decide +kernel) rfl) ?_
        refine gm_sz (gm_p_goto (pc := 26) (off := (-21)) (by decide +kernel) (by decide)) ?_
        exact ih (i + 1) K3 R3 M3 (by omega) (by omega) hs3 hF3 (fr1_207 hfr2 hf3)
      · refine gm_sz (gm_p_load (pc := 17) (i := .iload_n 2) (sr := 0) (j := 2) (by decide +kernel) rfl rfl rfl) ?_
        exact gm_r_int (pc := 18) (by decide +kernel) (Or.inl (by decide +kernel)) (hq i _ _ _ (by omega) (by omega) hF2 hfr2)
theorem sp_f_207 {σ : Nat → Int} {n : Nat} (hf : ck_gf σ ([], [(3, 8, 246)], [(207, 2, 2, (0, 6, [])), (207, 5, 5, (0, 300, [])), (207, 7, 7, (0, 299, []))]) n K R M) : R 3 8 = 246 ∧ SPc 207 (M 207 7) M ∧ (0 ≤ M 207 7 ∧ M 207 7 ≤ 299) ∧ 0 ≤ M 207 2 := by
  have f2 := ((hf.2.2 (207, 2, 2, (0, 6, [])) List.mem_cons_self).2 2 (Int.le_refl _) (Int.le_refl _)).2
  have f5 := ((hf.2.2 (207, 5, 5, (0, 300, [])) (List.mem_cons_of_mem _ List.mem_cons_self)).2 5 (Int.le_refl _) (Int.le_refl _)).2
  have f7 := ((hf.2.2 (207, 7, 7, (0, 299, [])) (List.mem_cons_of_mem _ (List.mem_cons_of_mem _ List.mem_cons_self))).2 7 (Int.le_refl _) (Int.le_refl _)).2
  exact ⟨(hf.2.1 (3, 8, 246) List.mem_cons_self).2, ⟨Or.inl ⟨⟨f2.1, f2.2.1⟩, f5.1, f7.1⟩, f5.2.1, rfl⟩, ⟨f7.1, f7.2.1⟩, f2.1⟩
theorem sp_g_207 {σ : Nat → Int} {n : Nat} (hf : ck_gf σ ([], [(3, 8, 246)], [(207, 2, 2, ((-1), (-1), [])), (207, 5, 5, ((-1), 300, [])), (207, 7, 7, ((-1), 299, []))]) n K R M) : R 3 8 = 246 ∧ SPc 207 (M 207 7) M ∧ (-1 ≤ M 207 7 ∧ M 207 7 ≤ 299) ∧ M 207 2 = -1 := by
  have f2 := ((hf.2.2 (207, 2, 2, ((-1), (-1), [])) List.mem_cons_self).2 2 (Int.le_refl _) (Int.le_refl _)).2
  have f5 := ((hf.2.2 (207, 5, 5, ((-1), 300, [])) (List.mem_cons_of_mem _ List.mem_cons_self)).2 5 (Int.le_refl _) (Int.le_refl _)).2
  have f7 := ((hf.2.2 (207, 7, 7, ((-1), 299, [])) (List.mem_cons_of_mem _ (List.mem_cons_of_mem _ List.mem_cons_self))).2 7 (Int.le_refl _) (Int.le_refl _)).2
  exact ⟨(hf.2.1 (3, 8, 246) List.mem_cons_self).2, ⟨Or.inr ⟨Int.le_antisymm f2.2.1 f2.1, f5.1, f7.1⟩, f5.2.1, rfl⟩, ⟨f7.1, f7.2.1⟩, Int.le_antisymm f2.2.1 f2.1⟩
theorem q30_207_s (hS : s32_207 X LX) : ck_Ok qL_O X LX 30 q30_207 := by
  intro d σ vs n K R M hd hn hvs hσ hF hf
  obtain ⟨v0, w0, rfl, g0, v1, w1, rfl, ⟨l, rfl, hl, l0, l1, -⟩, g4⟩ := hvs
  have g4 : w1 = [] := g4
  subst g4
  have g0 : v0 = gm_vr 207 := g0
  subst g0
  have l0 : (0 : Int) ≤ l := l0
  have l1 : l ≤ (299 : Int) := l1
  have hn : n = 249 := hn
  subst hn
  obtain ⟨h8, hs, ⟨a0, a1⟩, a2⟩ := sp_f_207 hf
  refine gm_sz (gm_p_load (pc := 0) (i := .aload_n 0) (sr := 2) (j := 0) (by decide +kernel) rfl rfl rfl) ?_
  refine gm_sz (fw_gi (pc := 1) (ix := 28) (ci := 5) (j := 7) (x := M 207 7) (by decide +kernel) (e0k (e0F (pl_o (qL_p hF))) (k := 207) (c := 5) (by decide +kernel)) (by decide +kernel) (by decide +kernel) rfl) ?_
  refine gm_sz (gm_p_stor (pc := 4) (i := .istore_n 2) (sr := 0) (j := 2) (by decide +kernel) rfl (show 3 ≤ _ from Nat.le_of_ble_eq_true rfl) rfl) ?_
  exact q30_207_l hS hd ⟨l0, l1⟩ h8 (fun v K2 R2 M2 v0 v1 hF2 hfr2 => ⟨hF2, hfr2, _, List.mem_cons_self, ⟨v, rfl, ⟨by omega, by omega⟩, v0, v1, (fun _ h => nomatch h)⟩, rfl, (fun _ h => nomatch h), (fun _ h => nomatch h), (fun _ h => nomatch h)⟩) (300 - M 207 7).toNat (M 207 7) K R M (by omega) (by omega) hs hF ck_fr_0
def q30n_207 : ck_Sum := ((14, 0, 0), 249, [.inr (.inr (.inl 207)), .inl (0, 299, [])], ([], [(3, 8, 246)], [(207, 2, 2, ((-1), (-1), [])), (207, 5, 5, ((-1), 300, [])), (207, 7, 7, ((-1), 299, []))]), q32_207_W, [(.inr (some (.inl ((-1), 299, []))), 249, ([], [], []))])
theorem q30n_207_s (hS : s32_207 X LX) : ck_Ok qL_O X LX 30 q30n_207 := by
  intro d σ vs n K R M hd hn hvs hσ hF hf
  obtain ⟨v0, w0, rfl, g0, v1, w1, rfl, ⟨l, rfl, hl, l0, l1, -⟩, g4⟩ := hvs
  have g4 : w1 = [] := g4
  subst g4
  have g0 : v0 = gm_vr 207 := g0
  subst g0
  have l0 : (0 : Int) ≤ l := l0
  have l1 : l ≤ (299 : Int) := l1
  have hn : n = 249 := hn
  subst hn
  obtain ⟨h8, hs, ⟨a0, a1⟩, a2⟩ := sp_g_207 hf
  refine gm_sz (gm_p_load (pc := 0) (i := .aload_n 0) (sr := 2) (j := 0) (by decide +kernel) rfl rfl rfl) ?_
  refine gm_sz (fw_gi (pc := 1) (ix := 28) (ci := 5) (j := 7) (x := M 207 7) (by decide +kernel) (e0k (e0F (pl_o (qL_p hF))) (k := 207) (c := 5) (by decide +kernel)) (by decide +kernel) (by decide +kernel) rfl) ?_
  refine gm_sz (gm_p_stor (pc := 4) (i := .istore_n 2) (sr := 0) (j := 2) (by decide +kernel) rfl (show 3 ≤ _ from Nat.le_of_ble_eq_true rfl) rfl) ?_
  exact q30_207_l hS hd ⟨l0, l1⟩ h8 (fun v K2 R2 M2 v0 v1 hF2 hfr2 => ⟨hF2, hfr2, _, List.mem_cons_self, ⟨v, rfl, ⟨by omega, by omega⟩, v0, v1, (fun _ h => nomatch h)⟩, rfl, (fun _ h => nomatch h), (fun _ h => nomatch h), (fun _ h => nomatch h)⟩) (300 - M 207 7).toNat (M 207 7) K R M (by omega) (by omega) hs hF ck_fr_0
def q148_207 : ck_Sum := ((14, 0, 0), 249, [.inr (.inr (.inl 207)), .inl (0, 299, [])], ([], [(3, 8, 246)], [(207, 2, 2, (0, 6, [])), (207, 5, 5, (0, 300, [])), (207, 7, 7, (0, 299, []))]), q32_207_W, [(.inr none, 249, ([], [], [(207, 5, 5, (0, 300, [])), (207, 7, 7, (0, 299, []))]))])
theorem q148_207_l {mx : Int} (hS : s32_207 X LX) (hd : 14 ≤ d) (hl : 0 ≤ last ∧ last ≤ 299) (hmx : last ≤ mx) (h80 : R0 3 8 = 246) (hq : ∀ i K2 R2 M2, -1 ≤ i → i ≤ 299 → last ≤ i → i ≤ mx → SPc 207 i M2 → gm_Fx qL_O 249 K2 R2 M2 → ck_fr q32_207_W 249 K0 R0 M0 249 K2 R2 M2 → Q (.inl none) 249 K2 R2 M2) : ∀ (u : Nat) (i : Int) (K : gm_K) (R : gm_R) (M : gm_M), i + (u : Int) = 299 → -1 ≤ i → i ≤ mx → SPc 207 i M → gm_Fx qL_O 249 K R M → ck_fr q32_207_W 249 K0 R0 M0 249 K R M → gm_Wp X LX d 0 0 148 5 [some (gm_vr 207), some (gm_vi last), some (gm_vi i)] [] 249 K R M Q := by
  intro u
  induction u with
  | zero =>
    intro i K R M hu hi him hs hF hfr
    refine gm_sz (gm_p_load (pc := 5) (i := .iload_n 2) (sr := 0) (j := 2) (by decide +kernel) rfl rfl rfl) ?_
    refine gm_sz (gm_p_load (pc := 6) (i := .iload_n 1) (sr := 0) (j := 1) (by decide +kernel) rfl rfl rfl) ?_
    refine fw_ict (cc := .ge) (pc := 7) (off := 13) (by decide +kernel) (by decide) ⟨by omega, by omega⟩ ⟨by omega, by omega⟩ (show last ≤ i by omega) ?_
    exact gm_r_void (pc := 20) (by decide +kernel) (by decide +kernel) (hq i _ _ _ hi (by omega) (by omega) him hs hF hfr)
  | succ u ih =>
    intro i K R M hu hi him hs hF hfr
    refine gm_sz (gm_p_load (pc := 5) (i := .iload_n 2) (sr := 0) (j := 2) (by decide +kernel) rfl rfl rfl) ?_
    refine gm_sz (gm_p_load (pc := 6) (i := .iload_n 1) (sr := 0) (j := 1) (by decide +kernel) rfl rfl rfl) ?_
    refine fw_ic (cc := .ge) (pc := 7) (off := 13) (by decide +kernel) (by decide) ⟨by omega, by omega⟩ ⟨by omega, by omega⟩ (fun hp => ?_) (fun hp => ?_)
    · have hp : last ≤ i := hp
      exact gm_r_void (pc := 20) (by decide +kernel) (by decide +kernel) (hq i _ _ _ hi (by omega) hp him hs hF hfr)
    · have hp : ¬ last ≤ i := hp
      refine gm_sz (gm_p_load (pc := 10) (i := .aload_n 0) (sr := 2) (j := 0) (by decide +kernel) rfl rfl rfl) ?_
      have kc2 : (1 ≤ 207 ∧ 207 ≤ 249) ∧ (K 207).1 = 5 + 4 := ⟨⟨by decide, by decide⟩, by rw [(hF.1 207 (9, 0) rfl).2.2]⟩
      refine gm_c_virt (k := 207) (ci := 5) (mj := 32) (ix := 112) (pc := 11) (as := []) (st := []) (d' := 13) (bc' := 0) (bs' := 0) (by decide +kernel) (by decide +kernel) (by decide +kernel) (by decide +kernel) kc2.1 kc2.2 (by decide) (by decide +kernel) (show 0 = gm_na 32 by decide +kernel) fw_c0 (show 0 + 1 ≤ gm_ml 32 by decide +kernel) (Nat.le_of_ble_eq_true rfl) (by omega) (Nat.zero_le _) (Nat.zero_le _) ?_
      have h82 : R 3 8 = 246 := (hfr.2.2.2 3 8 (by decide) (fun h => nomatch h)).trans h80
      refine q32_207_c hS (Nat.le_refl _) hF h82 hs (by omega) (fun K3 R3 M3 hF3 hf3 hs3 => ?_)
      show gm_Wp X LX d 0 0 148 14 [some (gm_vr 207), some (gm_vi last), some (gm_vi i)] [] 249 K3 R3 M3 Q
      refine gm_sz (gm_p_iinc (pc := 14) (j := 2) (z := 1) (by decide +kernel) rfl) ?_
      refine gm_sz (gm_p_goto (pc := 17) (off := (-12)) (by decide +kernel) (by decide)) ?_
      exact ih (i + 1) K3 R3 M3 (by omega) (by omega) (by omega) hs3 hF3 (fr1_207 hfr hf3)
theorem q148_207_s (hS : s32_207 X LX) : ck_Ok qL_O X LX 148 q148_207 := by
  intro d σ vs n K R M hd hn hvs hσ hF hf
  obtain ⟨v0, w0, rfl, g0, v1, w1, rfl, ⟨l, rfl, hl, l0, l1, -⟩, g4⟩ := hvs
  have g4 : w1 = [] := g4
  subst g4
  have g0 : v0 = gm_vr 207 := g0
  subst g0
  have l0 : (0 : Int) ≤ l := l0
  have l1 : l ≤ (299 : Int) := l1
  have hn : n = 249 := hn
  subst hn
  obtain ⟨h8, hs, ⟨a0, a1⟩, a2⟩ := sp_f_207 hf
  refine gm_sz (gm_p_load (pc := 0) (i := .aload_n 0) (sr := 2) (j := 0) (by decide +kernel) rfl rfl rfl) ?_
  refine gm_sz (fw_gi (pc := 1) (ix := 28) (ci := 5) (j := 7) (x := M 207 7) (by decide +kernel) (e0k (e0F (pl_o (qL_p hF))) (k := 207) (c := 5) (by decide +kernel)) (by decide +kernel) (by decide +kernel) rfl) ?_
  refine gm_sz (gm_p_stor (pc := 4) (i := .istore_n 2) (sr := 0) (j := 2) (by decide +kernel) rfl (show 3 ≤ _ from Nat.le_of_ble_eq_true rfl) rfl) ?_
  refine q148_207_l (mx := 299) hS hd ⟨l0, l1⟩ l1 h8 (fun i K2 R2 M2 i0 i1 _ _ hs2 hF2 hfr2 => ⟨hF2, hfr2, _, List.mem_cons_self, trivial, rfl, (fun _ h => nomatch h), (fun _ h => nomatch h), fun q hq => ?_⟩) (299 - M 207 7).toNat (M 207 7) K R M (by omega) (by omega) (by omega) hs hF ck_fr_0
  have e2 : M2 207 2 = M 207 2 := hfr2.2.2.1 207 2 (by decide) (fun w hw hh => absurd hh (of_decide_eq_true (List.all_eq_true.mp (show q32_207_W.1.all (fun w => decide (¬ (w.1 = 207 ∧ w.2.1 ≤ 2 ∧ 2 ≤ w.2.2))) = true by decide) w hw)))
  have b5 : 0 ≤ M2 207 5 ∧ M2 207 5 ≤ 300 := by
    have z2 := hs.1
    have z3 := hs2
    unfold SPc at z3
    omega
  have b7 : M2 207 7 = i ∧ 0 ≤ i := by
    have z2 := hs.1
    have z3 := hs2
    unfold SPc at z3
    omega
  simp only [List.mem_cons, List.not_mem_nil, or_false] at hq
  rcases hq with rfl | rfl
  · refine ⟨by show 207 ≤ 249; decide, fun j j1 j2 => ?_⟩
    have ej : j = 5 := Int.le_antisymm j2 j1
    subst ej
    exact ⟨(show gm_ir (M2 207 5) from ⟨by omega, by omega⟩), b5.1, b5.2, fun _ h => nomatch h⟩
  · refine ⟨by show 207 ≤ 249; decide, fun j j1 j2 => ?_⟩
    have ej : j = 7 := Int.le_antisymm j2 j1
    subst ej
    exact ⟨(show gm_ir (M2 207 7) from ⟨by omega, by omega⟩), (show 0 ≤ M2 207 7 by omega), (show M2 207 7 ≤ 299 by omega), fun _ h => nomatch h⟩
def q148n_207 : ck_Sum := ((14, 0, 0), 249, [.inr (.inr (.inl 207)), .inl (0, 299, [])], ([], [(3, 8, 246)], [(207, 2, 2, ((-1), (-1), [])), (207, 5, 5, ((-1), 300, [])), (207, 7, 7, ((-1), 299, []))]), q32_207_W, [(.inr none, 249, ([], [], [(207, 5, 5, ((-1), 300, [])), (207, 7, 7, ((-1), 299, []))]))])
theorem q148n_207_s (hS : s32_207 X LX) : ck_Ok qL_O X LX 148 q148n_207 := by
  intro d σ vs n K R M hd hn hvs hσ hF hf
  obtain ⟨v0, w0, rfl, g0, v1, w1, rfl, ⟨l, rfl, hl, l0, l1, -⟩, g4⟩ := hvs
  have g4 : w1 = [] := g4
  subst g4
  have g0 : v0 = gm_vr 207 := g0
  subst g0
  have l0 : (0 : Int) ≤ l := l0
  have l1 : l ≤ (299 : Int) := l1
  have hn : n = 249 := hn
  subst hn
  obtain ⟨h8, hs, ⟨a0, a1⟩, a2⟩ := sp_g_207 hf
  refine gm_sz (gm_p_load (pc := 0) (i := .aload_n 0) (sr := 2) (j := 0) (by decide +kernel) rfl rfl rfl) ?_
  refine gm_sz (fw_gi (pc := 1) (ix := 28) (ci := 5) (j := 7) (x := M 207 7) (by decide +kernel) (e0k (e0F (pl_o (qL_p hF))) (k := 207) (c := 5) (by decide +kernel)) (by decide +kernel) (by decide +kernel) rfl) ?_
  refine gm_sz (gm_p_stor (pc := 4) (i := .istore_n 2) (sr := 0) (j := 2) (by decide +kernel) rfl (show 3 ≤ _ from Nat.le_of_ble_eq_true rfl) rfl) ?_
  refine q148_207_l (mx := 299) hS hd ⟨l0, l1⟩ l1 h8 (fun i K2 R2 M2 i0 i1 _ _ hs2 hF2 hfr2 => ⟨hF2, hfr2, _, List.mem_cons_self, trivial, rfl, (fun _ h => nomatch h), (fun _ h => nomatch h), fun q hq => ?_⟩) (299 - M 207 7).toNat (M 207 7) K R M (by omega) (by omega) (by omega) hs hF ck_fr_0
  have e2 : M2 207 2 = M 207 2 := hfr2.2.2.1 207 2 (by decide) (fun w hw hh => absurd hh (of_decide_eq_true (List.all_eq_true.mp (show q32_207_W.1.all (fun w => decide (¬ (w.1 = 207 ∧ w.2.1 ≤ 2 ∧ 2 ≤ w.2.2))) = true by decide) w hw)))
  have b5 : -1 ≤ M2 207 5 ∧ M2 207 5 ≤ 300 := by
    have z2 := hs.1
    have z3 := hs2
    unfold SPc at z3
    omega
  have b7 : M2 207 7 = i ∧ -1 ≤ i := by
    have z2 := hs.1
    have z3 := hs2
    unfold SPc at z3
    omega
  simp only [List.mem_cons, List.not_mem_nil, or_false] at hq
  rcases hq with rfl | rfl
  · refine ⟨by show 207 ≤ 249; decide, fun j j1 j2 => ?_⟩
    have ej : j = 5 := Int.le_antisymm j2 j1
    subst ej
    exact ⟨(show gm_ir (M2 207 5) from ⟨by omega, by omega⟩), b5.1, b5.2, fun _ h => nomatch h⟩
  · refine ⟨by show 207 ≤ 249; decide, fun j j1 j2 => ?_⟩
    have ej : j = 7 := Int.le_antisymm j2 j1
    subst ej
    exact ⟨(show gm_ir (M2 207 7) from ⟨by omega, by omega⟩), (show -1 ≤ M2 207 7 by omega), (show M2 207 7 ≤ 299 by omega), fun _ h => nomatch h⟩
theorem q148_206_c (hS : s32_206 X LX) (hd : 14 ≤ d) (hF : gm_Fx qL_O 249 K R M) (h8 : R 3 8 = 246) (hs : SPc 206 i M) (hl : 0 ≤ last ∧ last ≤ 299) (hi : i ≤ last) (q : ∀ K2 R2 M2, gm_Fx qL_O 249 K2 R2 M2 → ck_fr q32_206_W 249 K R M 249 K2 R2 M2 → SPc 206 last M2 → Q (.inl none) 249 K2 R2 M2) : gm_Wp X LX d 0 0 148 0 (gm_ent 148 [gm_vr 206, gm_vi last]) [] 249 K R M Q := by
  have hb := spc_b hs
  have h7 : M 206 7 = i := hs.2.2
  refine gm_sz (gm_p_load (pc := 0) (i := .aload_n 0) (sr := 2) (j := 0) (by decide +kernel) rfl rfl rfl) ?_
  refine gm_sz (fw_gi (pc := 1) (ix := 28) (ci := 5) (j := 7) (x := i) (by decide +kernel) (e0k (e0F (pl_o (qL_p hF))) (k := 206) (c := 5) (by decide +kernel)) (by decide +kernel) (by decide +kernel) h7) ?_
  refine gm_sz (gm_p_stor (pc := 4) (i := .istore_n 2) (sr := 0) (j := 2) (by decide +kernel) rfl (show 3 ≤ _ from Nat.le_of_ble_eq_true rfl) rfl) ?_
  exact q148_206_l (mx := last) hS hd hl (Int.le_refl _) h8 (fun i2 K2 R2 M2 _ _ a b hs2 hF2 hfr2 => q K2 R2 M2 hF2 hfr2 (by rw [show i2 = last by omega] at hs2; exact hs2)) (299 - i).toNat i K R M (by omega) hb.2 hi hs hF ck_fr_0
theorem q148_207_c (hS : s32_207 X LX) (hd : 14 ≤ d) (hF : gm_Fx qL_O 249 K R M) (h8 : R 3 8 = 246) (hs : SPc 207 i M) (hl : 0 ≤ last ∧ last ≤ 299) (hi : i ≤ last) (q : ∀ K2 R2 M2, gm_Fx qL_O 249 K2 R2 M2 → ck_fr q32_207_W 249 K R M 249 K2 R2 M2 → SPc 207 last M2 → Q (.inl none) 249 K2 R2 M2) : gm_Wp X LX d 0 0 148 0 (gm_ent 148 [gm_vr 207, gm_vi last]) [] 249 K R M Q := by
  have hb := spc_b hs
  have h7 : M 207 7 = i := hs.2.2
  refine gm_sz (gm_p_load (pc := 0) (i := .aload_n 0) (sr := 2) (j := 0) (by decide +kernel) rfl rfl rfl) ?_
  refine gm_sz (fw_gi (pc := 1) (ix := 28) (ci := 5) (j := 7) (x := i) (by decide +kernel) (e0k (e0F (pl_o (qL_p hF))) (k := 207) (c := 5) (by decide +kernel)) (by decide +kernel) (by decide +kernel) h7) ?_
  refine gm_sz (gm_p_stor (pc := 4) (i := .istore_n 2) (sr := 0) (j := 2) (by decide +kernel) rfl (show 3 ≤ _ from Nat.le_of_ble_eq_true rfl) rfl) ?_
  exact q148_207_l (mx := last) hS hd hl (Int.le_refl _) h8 (fun i2 K2 R2 M2 _ _ a b hs2 hF2 hfr2 => q K2 R2 M2 hF2 hfr2 (by rw [show i2 = last by omega] at hs2; exact hs2)) (299 - i).toNat i K R M (by omega) hb.2 hi hs hF ck_fr_0
end RU27
end
/-! 7c28.sl -/
section
/-! WHERE A TRAVELLER STARTS: a letter's place, a person's; or -1 thrice, where there is none. -/
section SL28
variable {X : Int → Int} {LX d bc bs n : Nat} {K : gm_K} {R : gm_R} {M : gm_M} {Q : gm_Q} {lane row year speed l p y x z : Int} {N h : Int → Int} {sp : Int → Int → Int}
theorem ln_rock (hd : 1 ≤ d) (hE : E0 n K R) (hT : TI N h sp M) (hN : NR N) (h1 : N 4 ≤ l ∧ l < 100) (q0 : Q (.inl (some (gm_vi 1))) n K R (M)) : gm_Wp X LX d bc bs 28 0 (gm_ent 28 [gm_vr 3, gm_vi l]) [] n K R M Q := by
  obtain ⟨⟨⟨a0, b0⟩, ⟨a1, b1⟩, ⟨a10, b10⟩, ⟨a11, b11⟩, ⟨a12, b12⟩, a9, b9⟩, ⟨⟨a2, b2⟩, ⟨a5, b5⟩, ⟨a3, b3⟩, ⟨a4, b4⟩, ⟨a6, b6⟩, ⟨a14, b14⟩, ⟨a7, b7⟩, a13, b13⟩, rF, rP, rL⟩ := id hN
  refine gm_sz (gm_p_load (pc := 0) (i := .aload_n 0) (sr := 2) (j := 0) (by decide +kernel) rfl rfl rfl) ?_
  refine gm_sz (fw_gr (pc := 1) (ix := 55) (ci := 1) (j := 12) (r := 10) (by decide +kernel) (e0k hE (k := 3) (c := 1) (by decide +kernel)) (by decide +kernel) (by decide +kernel) (e0r hE (k := 3) (j := 12) (r := 10) (by decide +kernel))) ?_
  refine gm_sz (gm_p_load (pc := 4) (i := .iload_n 1) (sr := 0) (j := 1) (by decide +kernel) rfl rfl rfl) ?_
  refine gm_sz (gm_p_const (pc := 5) (i := .iconst 0) (v := gm_vi 0) (by decide +kernel) (by decide +kernel)) ?_
  refine gm_c_virt (k := 10) (ci := 2) (mj := 10) (ix := 72) (pc := 6) (as := [gm_vi l, gm_vi 0]) (st := []) (d' := d - 1) (bc' := 0) (bs' := 0) (by decide +kernel) (by decide +kernel) (by decide +kernel) (by decide +kernel) (e0k hE (k := 10) (c := 2) (by decide +kernel)).1 (e0k hE (k := 10) (c := 2) (by decide +kernel)).2 (by decide) (by decide +kernel) (show 2 = gm_na 10 by decide +kernel) (fw_c2 fw_si fw_si) (show 3 ≤ gm_ml 10 by decide +kernel) (Nat.le_of_ble_eq_true rfl) (by omega) (Nat.zero_le _) (Nat.zero_le _) ?_
  refine rw_none (s := N 4) (e0k hE (k := 10) (c := 2) (by decide +kernel)) (ti_let hT) (by omega) ⟨⟨by omega, by omega⟩, ⟨by omega, by omega⟩⟩ ?_
  show gm_Wp X LX d _ _ 28 9 _ [gm_vi (-1)] n K _ _ Q
  refine gm_sz (gm_p_const (pc := 9) (i := .iconst (-1)) (v := gm_vi (-1)) (by decide +kernel) (by decide +kernel)) ?_
  refine fw_icfd (cc := .ne) (pc := 10) (off := 7) (by decide +kernel) (by decide) ⟨by decide, by decide⟩ ⟨by decide, by decide⟩ (by decide) ?_
  refine gm_sz (gm_p_const (pc := 13) (i := .iconst 1) (v := gm_vi 1) (by decide +kernel) (by decide +kernel)) ?_
  refine gm_sz (gm_p_goto (pc := 14) (off := 4) (by decide +kernel) (by decide)) ?_
  exact gm_r_int (pc := 18) (by decide +kernel) (Or.inr ⟨(by decide +kernel), Or.inr rfl⟩) q0
def ln_l206 (M : gm_M) : gm_M := gm_uM (gm_uM (gm_uM (gm_uM (gm_uM (gm_uM (gm_uM M 206 2 (-1)) 206 5 (-1)) 206 7 (-1)) 206 3 1) 206 4 (-1)) 206 6 0) 206 8 0
theorem ln_let206 (hd : 2 ≤ d) (hE : E0 n K R) (hT : TI N h sp M) (hN : NR N) (h1 : N 4 ≤ l ∧ l < 100) (q0 : Q (.inl (none)) n K R (ln_l206 M)) : gm_Wp X LX d bc bs 27 0 (gm_ent 27 [gm_vr 206, gm_vi l]) [] n K R M Q := by
  obtain ⟨⟨⟨a0, b0⟩, ⟨a1, b1⟩, ⟨a10, b10⟩, ⟨a11, b11⟩, ⟨a12, b12⟩, a9, b9⟩, ⟨⟨a2, b2⟩, ⟨a5, b5⟩, ⟨a3, b3⟩, ⟨a4, b4⟩, ⟨a6, b6⟩, ⟨a14, b14⟩, ⟨a7, b7⟩, a13, b13⟩, rF, rP, rL⟩ := id hN
  refine gm_sz (gm_p_load (pc := 0) (i := .aload_n 0) (sr := 2) (j := 0) (by decide +kernel) rfl rfl rfl) ?_
  refine gm_sz (fw_gr (pc := 1) (ix := 34) (ci := 5) (j := 0) (r := 3) (by decide +kernel) (e0k hE (k := 206) (c := 5) (by decide +kernel)) (by decide +kernel) (by decide +kernel) (e0r hE (k := 206) (j := 0) (r := 3) (by decide +kernel))) ?_
  refine gm_sz (fw_gr (pc := 4) (ix := 42) (ci := 1) (j := 12) (r := 10) (by decide +kernel) (e0k hE (k := 3) (c := 1) (by decide +kernel)) (by decide +kernel) (by decide +kernel) (e0r hE (k := 3) (j := 12) (r := 10) (by decide +kernel))) ?_
  refine gm_sz (gm_p_stor (pc := 7) (i := .astore_n 2) (sr := 2) (j := 2) (by decide +kernel) rfl (show 3 ≤ _ from Nat.le_of_ble_eq_true rfl) rfl) ?_
  refine gm_sz (gm_p_load (pc := 8) (i := .aload_n 0) (sr := 2) (j := 0) (by decide +kernel) rfl rfl rfl) ?_
  refine gm_sz (gm_p_load (pc := 9) (i := .aload_n 2) (sr := 2) (j := 2) (by decide +kernel) rfl rfl rfl) ?_
  refine gm_sz (gm_p_load (pc := 10) (i := .iload_n 1) (sr := 0) (j := 1) (by decide +kernel) rfl rfl rfl) ?_
  refine gm_sz (gm_p_const (pc := 11) (i := .iconst 2) (v := gm_vi 2) (by decide +kernel) (by decide +kernel)) ?_
  refine gm_c_virt (k := 10) (ci := 2) (mj := 10) (ix := 48) (pc := 12) (as := [gm_vi l, gm_vi 2]) (st := [gm_vr 206]) (d' := d - 1) (bc' := 0) (bs' := 0) (by decide +kernel) (by decide +kernel) (by decide +kernel) (by decide +kernel) (e0k hE (k := 10) (c := 2) (by decide +kernel)).1 (e0k hE (k := 10) (c := 2) (by decide +kernel)).2 (by decide) (by decide +kernel) (show 2 = gm_na 10 by decide +kernel) (fw_c2 fw_si fw_si) (show 3 ≤ gm_ml 10 by decide +kernel) (Nat.le_of_ble_eq_true rfl) (by omega) (Nat.zero_le _) (Nat.zero_le _) ?_
  refine rw_none (s := N 4) (e0k hE (k := 10) (c := 2) (by decide +kernel)) (ti_let hT) (by omega) ⟨⟨by omega, by omega⟩, ⟨by omega, by omega⟩⟩ ?_
  show gm_Wp X LX d _ _ 27 15 _ [gm_vi (-1), gm_vr 206] n K _ _ Q
  refine gm_sz (gm_p_load (pc := 15) (i := .aload_n 2) (sr := 2) (j := 2) (by decide +kernel) rfl rfl rfl) ?_
  refine gm_sz (gm_p_load (pc := 16) (i := .iload_n 1) (sr := 0) (j := 1) (by decide +kernel) rfl rfl rfl) ?_
  refine gm_sz (gm_p_const (pc := 17) (i := .iconst 4) (v := gm_vi 4) (by decide +kernel) (by decide +kernel)) ?_
  refine gm_c_virt (k := 10) (ci := 2) (mj := 10) (ix := 48) (pc := 18) (as := [gm_vi l, gm_vi 4]) (st := [gm_vi (-1), gm_vr 206]) (d' := d - 1) (bc' := 0) (bs' := 0) (by decide +kernel) (by decide +kernel) (by decide +kernel) (by decide +kernel) (e0k hE (k := 10) (c := 2) (by decide +kernel)).1 (e0k hE (k := 10) (c := 2) (by decide +kernel)).2 (by decide) (by decide +kernel) (show 2 = gm_na 10 by decide +kernel) (fw_c2 fw_si fw_si) (show 3 ≤ gm_ml 10 by decide +kernel) (Nat.le_of_ble_eq_true rfl) (by omega) (Nat.zero_le _) (Nat.zero_le _) ?_
  refine rw_none (s := N 4) (e0k hE (k := 10) (c := 2) (by decide +kernel)) (ti_let hT) (by omega) ⟨⟨by omega, by omega⟩, ⟨by omega, by omega⟩⟩ ?_
  show gm_Wp X LX d _ _ 27 21 _ [gm_vi (-1), gm_vi (-1), gm_vr 206] n K _ _ Q
  refine gm_sz (gm_p_load (pc := 21) (i := .aload_n 2) (sr := 2) (j := 2) (by decide +kernel) rfl rfl rfl) ?_
  refine gm_sz (gm_p_load (pc := 22) (i := .iload_n 1) (sr := 0) (j := 1) (by decide +kernel) rfl rfl rfl) ?_
  refine gm_sz (gm_p_const (pc := 23) (i := .iconst 3) (v := gm_vi 3) (by decide +kernel) (by decide +kernel)) ?_
  refine gm_c_virt (k := 10) (ci := 2) (mj := 10) (ix := 48) (pc := 24) (as := [gm_vi l, gm_vi 3]) (st := [gm_vi (-1), gm_vi (-1), gm_vr 206]) (d' := d - 1) (bc' := 0) (bs' := 0) (by decide +kernel) (by decide +kernel) (by decide +kernel) (by decide +kernel) (e0k hE (k := 10) (c := 2) (by decide +kernel)).1 (e0k hE (k := 10) (c := 2) (by decide +kernel)).2 (by decide) (by decide +kernel) (show 2 = gm_na 10 by decide +kernel) (fw_c2 fw_si fw_si) (show 3 ≤ gm_ml 10 by decide +kernel) (Nat.le_of_ble_eq_true rfl) (by omega) (Nat.zero_le _) (Nat.zero_le _) ?_
  refine rw_none (s := N 4) (e0k hE (k := 10) (c := 2) (by decide +kernel)) (ti_let hT) (by omega) ⟨⟨by omega, by omega⟩, ⟨by omega, by omega⟩⟩ ?_
  show gm_Wp X LX d _ _ 27 27 _ [gm_vi (-1), gm_vi (-1), gm_vi (-1), gm_vr 206] n K _ _ Q
  refine gm_sz (gm_p_load (pc := 27) (i := .aload_n 0) (sr := 2) (j := 0) (by decide +kernel) rfl rfl rfl) ?_
  refine gm_sz (fw_gr (pc := 28) (ix := 34) (ci := 5) (j := 0) (r := 3) (by decide +kernel) (e0k hE (k := 206) (c := 5) (by decide +kernel)) (by decide +kernel) (by decide +kernel) (e0r hE (k := 206) (j := 0) (r := 3) (by decide +kernel))) ?_
  refine gm_sz (gm_p_load (pc := 31) (i := .iload_n 1) (sr := 0) (j := 1) (by decide +kernel) rfl rfl rfl) ?_
  refine gm_c_virt (k := 3) (ci := 1) (mj := 28) (ix := 54) (pc := 32) (as := [gm_vi l]) (st := [gm_vi (-1), gm_vi (-1), gm_vi (-1), gm_vr 206]) (d' := d - 1) (bc' := 0) (bs' := 0) (by decide +kernel) (by decide +kernel) (by decide +kernel) (by decide +kernel) (e0k hE (k := 3) (c := 1) (by decide +kernel)).1 (e0k hE (k := 3) (c := 1) (by decide +kernel)).2 (by decide) (by decide +kernel) (show 1 = gm_na 28 by decide +kernel) (fw_c1 fw_si) (show 2 ≤ gm_ml 28 by decide +kernel) (Nat.le_of_ble_eq_true rfl) (by omega) (Nat.zero_le _) (Nat.zero_le _) ?_
  refine ln_rock (by omega) hE hT hN ⟨by omega, by omega⟩ ?_
  show gm_Wp X LX d _ _ 27 35 _ [gm_vi 1, gm_vi (-1), gm_vi (-1), gm_vi (-1), gm_vr 206] n K _ _ Q
  refine gm_c_virt (k := 206) (ci := 5) (mj := 29) (ix := 58) (pc := 35) (as := [gm_vi (-1), gm_vi (-1), gm_vi (-1), gm_vi 1]) (st := []) (d' := d - 1) (bc' := 0) (bs' := 0) (by decide +kernel) (by decide +kernel) (by decide +kernel) (by decide +kernel) (e0k hE (k := 206) (c := 5) (by decide +kernel)).1 (e0k hE (k := 206) (c := 5) (by decide +kernel)).2 (by decide) (by decide +kernel) (show 4 = gm_na 29 by decide +kernel) (fw_c4 fw_si fw_si fw_si fw_si) (show 5 ≤ gm_ml 29 by decide +kernel) (Nat.le_of_ble_eq_true rfl) (by omega) (Nat.zero_le _) (Nat.zero_le _) ?_
  refine wy_st206 hE hT hN ⟨by decide, by decide⟩ ?_
  show gm_Wp X LX d _ _ 27 38 _ [] n K _ _ Q
  exact gm_r_void (pc := 38) (by decide +kernel) (by decide +kernel) q0
def ln_l207 (M : gm_M) : gm_M := gm_uM (gm_uM (gm_uM (gm_uM (gm_uM (gm_uM (gm_uM M 207 2 (-1)) 207 5 (-1)) 207 7 (-1)) 207 3 1) 207 4 (-1)) 207 6 0) 207 8 0
theorem ln_let207 (hd : 2 ≤ d) (hE : E0 n K R) (hT : TI N h sp M) (hN : NR N) (h1 : N 4 ≤ l ∧ l < 100) (q0 : Q (.inl (none)) n K R (ln_l207 M)) : gm_Wp X LX d bc bs 27 0 (gm_ent 27 [gm_vr 207, gm_vi l]) [] n K R M Q := by
  obtain ⟨⟨⟨a0, b0⟩, ⟨a1, b1⟩, ⟨a10, b10⟩, ⟨a11, b11⟩, ⟨a12, b12⟩, a9, b9⟩, ⟨⟨a2, b2⟩, ⟨a5, b5⟩, ⟨a3, b3⟩, ⟨a4, b4⟩, ⟨a6, b6⟩, ⟨a14, b14⟩, ⟨a7, b7⟩, a13, b13⟩, rF, rP, rL⟩ := id hN
  refine gm_sz (gm_p_load (pc := 0) (i := .aload_n 0) (sr := 2) (j := 0) (by decide +kernel) rfl rfl rfl) ?_
  refine gm_sz (fw_gr (pc := 1) (ix := 34) (ci := 5) (j := 0) (r := 3) (by decide +kernel) (e0k hE (k := 207) (c := 5) (by decide +kernel)) (by decide +kernel) (by decide +kernel) (e0r hE (k := 207) (j := 0) (r := 3) (by decide +kernel))) ?_
  refine gm_sz (fw_gr (pc := 4) (ix := 42) (ci := 1) (j := 12) (r := 10) (by decide +kernel) (e0k hE (k := 3) (c := 1) (by decide +kernel)) (by decide +kernel) (by decide +kernel) (e0r hE (k := 3) (j := 12) (r := 10) (by decide +kernel))) ?_
  refine gm_sz (gm_p_stor (pc := 7) (i := .astore_n 2) (sr := 2) (j := 2) (by decide +kernel) rfl (show 3 ≤ _ from Nat.le_of_ble_eq_true rfl) rfl) ?_
  refine gm_sz (gm_p_load (pc := 8) (i := .aload_n 0) (sr := 2) (j := 0) (by decide +kernel) rfl rfl rfl) ?_
  refine gm_sz (gm_p_load (pc := 9) (i := .aload_n 2) (sr := 2) (j := 2) (by decide +kernel) rfl rfl rfl) ?_
  refine gm_sz (gm_p_load (pc := 10) (i := .iload_n 1) (sr := 0) (j := 1) (by decide +kernel) rfl rfl rfl) ?_
  refine gm_sz (gm_p_const (pc := 11) (i := .iconst 2) (v := gm_vi 2) (by decide +kernel) (by decide +kernel)) ?_
  refine gm_c_virt (k := 10) (ci := 2) (mj := 10) (ix := 48) (pc := 12) (as := [gm_vi l, gm_vi 2]) (st := [gm_vr 207]) (d' := d - 1) (bc' := 0) (bs' := 0) (by decide +kernel) (by decide +kernel) (by decide +kernel) (by decide +kernel) (e0k hE (k := 10) (c := 2) (by decide +kernel)).1 (e0k hE (k := 10) (c := 2) (by decide +kernel)).2 (by decide) (by decide +kernel) (show 2 = gm_na 10 by decide +kernel) (fw_c2 fw_si fw_si) (show 3 ≤ gm_ml 10 by decide +kernel) (Nat.le_of_ble_eq_true rfl) (by omega) (Nat.zero_le _) (Nat.zero_le _) ?_
  refine rw_none (s := N 4) (e0k hE (k := 10) (c := 2) (by decide +kernel)) (ti_let hT) (by omega) ⟨⟨by omega, by omega⟩, ⟨by omega, by omega⟩⟩ ?_
  show gm_Wp X LX d _ _ 27 15 _ [gm_vi (-1), gm_vr 207] n K _ _ Q
  refine gm_sz (gm_p_load (pc := 15) (i := .aload_n 2) (sr := 2) (j := 2) (by decide +kernel) rfl rfl rfl) ?_
  refine gm_sz (gm_p_load (pc := 16) (i := .iload_n 1) (sr := 0) (j := 1) (by decide +kernel) rfl rfl rfl) ?_
  refine gm_sz (gm_p_const (pc := 17) (i := .iconst 4) (v := gm_vi 4) (by decide +kernel) (by decide +kernel)) ?_
  refine gm_c_virt (k := 10) (ci := 2) (mj := 10) (ix := 48) (pc := 18) (as := [gm_vi l, gm_vi 4]) (st := [gm_vi (-1), gm_vr 207]) (d' := d - 1) (bc' := 0) (bs' := 0) (by decide +kernel) (by decide +kernel) (by decide +kernel) (by decide +kernel) (e0k hE (k := 10) (c := 2) (by decide +kernel)).1 (e0k hE (k := 10) (c := 2) (by decide +kernel)).2 (by decide) (by decide +kernel) (show 2 = gm_na 10 by decide +kernel) (fw_c2 fw_si fw_si) (show 3 ≤ gm_ml 10 by decide +kernel) (Nat.le_of_ble_eq_true rfl) (by omega) (Nat.zero_le _) (Nat.zero_le _) ?_
  refine rw_none (s := N 4) (e0k hE (k := 10) (c := 2) (by decide +kernel)) (ti_let hT) (by omega) ⟨⟨by omega, by omega⟩, ⟨by omega, by omega⟩⟩ ?_
  show gm_Wp X LX d _ _ 27 21 _ [gm_vi (-1), gm_vi (-1), gm_vr 207] n K _ _ Q
  refine gm_sz (gm_p_load (pc := 21) (i := .aload_n 2) (sr := 2) (j := 2) (by decide +kernel) rfl rfl rfl) ?_
  refine gm_sz (gm_p_load (pc := 22) (i := .iload_n 1) (sr := 0) (j := 1) (by decide +kernel) rfl rfl rfl) ?_
  refine gm_sz (gm_p_const (pc := 23) (i := .iconst 3) (v := gm_vi 3) (by decide +kernel) (by decide +kernel)) ?_
  refine gm_c_virt (k := 10) (ci := 2) (mj := 10) (ix := 48) (pc := 24) (as := [gm_vi l, gm_vi 3]) (st := [gm_vi (-1), gm_vi (-1), gm_vr 207]) (d' := d - 1) (bc' := 0) (bs' := 0) (by decide +kernel) (by decide +kernel) (by decide +kernel) (by decide +kernel) (e0k hE (k := 10) (c := 2) (by decide +kernel)).1 (e0k hE (k := 10) (c := 2) (by decide +kernel)).2 (by decide) (by decide +kernel) (show 2 = gm_na 10 by decide +kernel) (fw_c2 fw_si fw_si) (show 3 ≤ gm_ml 10 by decide +kernel) (Nat.le_of_ble_eq_true rfl) (by omega) (Nat.zero_le _) (Nat.zero_le _) ?_
  refine rw_none (s := N 4) (e0k hE (k := 10) (c := 2) (by decide +kernel)) (ti_let hT) (by omega) ⟨⟨by omega, by omega⟩, ⟨by omega, by omega⟩⟩ ?_
  show gm_Wp X LX d _ _ 27 27 _ [gm_vi (-1), gm_vi (-1), gm_vi (-1), gm_vr 207] n K _ _ Q
  refine gm_sz (gm_p_load (pc := 27) (i := .aload_n 0) (sr := 2) (j := 0) (by decide +kernel) rfl rfl rfl) ?_
  refine gm_sz (fw_gr (pc := 28) (ix := 34) (ci := 5) (j := 0) (r := 3) (by decide +kernel) (e0k hE (k := 207) (c := 5) (by decide +kernel)) (by decide +kernel) (by decide +kernel) (e0r hE (k := 207) (j := 0) (r := 3) (by decide +kernel))) ?_
  refine gm_sz (gm_p_load (pc := 31) (i := .iload_n 1) (sr := 0) (j := 1) (by decide +kernel) rfl rfl rfl) ?_
  refine gm_c_virt (k := 3) (ci := 1) (mj := 28) (ix := 54) (pc := 32) (as := [gm_vi l]) (st := [gm_vi (-1), gm_vi (-1), gm_vi (-1), gm_vr 207]) (d' := d - 1) (bc' := 0) (bs' := 0) (by decide +kernel) (by decide +kernel) (by decide +kernel) (by decide +kernel) (e0k hE (k := 3) (c := 1) (by decide +kernel)).1 (e0k hE (k := 3) (c := 1) (by decide +kernel)).2 (by decide) (by decide +kernel) (show 1 = gm_na 28 by decide +kernel) (fw_c1 fw_si) (show 2 ≤ gm_ml 28 by decide +kernel) (Nat.le_of_ble_eq_true rfl) (by omega) (Nat.zero_le _) (Nat.zero_le _) ?_
  refine ln_rock (by omega) hE hT hN ⟨by omega, by omega⟩ ?_
  show gm_Wp X LX d _ _ 27 35 _ [gm_vi 1, gm_vi (-1), gm_vi (-1), gm_vi (-1), gm_vr 207] n K _ _ Q
  refine gm_c_virt (k := 207) (ci := 5) (mj := 29) (ix := 58) (pc := 35) (as := [gm_vi (-1), gm_vi (-1), gm_vi (-1), gm_vi 1]) (st := []) (d' := d - 1) (bc' := 0) (bs' := 0) (by decide +kernel) (by decide +kernel) (by decide +kernel) (by decide +kernel) (e0k hE (k := 207) (c := 5) (by decide +kernel)).1 (e0k hE (k := 207) (c := 5) (by decide +kernel)).2 (by decide) (by decide +kernel) (show 4 = gm_na 29 by decide +kernel) (fw_c4 fw_si fw_si fw_si fw_si) (show 5 ≤ gm_ml 29 by decide +kernel) (Nat.le_of_ble_eq_true rfl) (by omega) (Nat.zero_le _) (Nat.zero_le _) ?_
  refine wy_st207 hE hT hN ⟨by decide, by decide⟩ ?_
  show gm_Wp X LX d _ _ 27 38 _ [] n K _ _ Q
  exact gm_r_void (pc := 38) (by decide +kernel) (by decide +kernel) q0
def ln_h206 (M : gm_M) (year : Int) : gm_M := gm_uM (gm_uM (gm_uM (gm_uM (gm_uM (gm_uM (gm_uM M 206 2 (-1)) 206 5 (-1)) 206 7 year) 206 3 0) 206 4 (-1)) 206 6 0) 206 8 0
theorem ln_hut206 (hd : 2 ≤ d) (hE : E0 n K R) (hT : TI N h sp M) (hN : NR N) (h1 : N 3 ≤ p ∧ p < 100) (q0 : Q (.inl (none)) n K R (ln_h206 M year)) : gm_Wp X LX d bc bs 170 0 (gm_ent 170 [gm_vr 206, gm_vi p, gm_vi year]) [] n K R M Q := by
  obtain ⟨⟨⟨a0, b0⟩, ⟨a1, b1⟩, ⟨a10, b10⟩, ⟨a11, b11⟩, ⟨a12, b12⟩, a9, b9⟩, ⟨⟨a2, b2⟩, ⟨a5, b5⟩, ⟨a3, b3⟩, ⟨a4, b4⟩, ⟨a6, b6⟩, ⟨a14, b14⟩, ⟨a7, b7⟩, a13, b13⟩, rF, rP, rL⟩ := id hN
  refine gm_sz (gm_p_load (pc := 0) (i := .aload_n 0) (sr := 2) (j := 0) (by decide +kernel) rfl rfl rfl) ?_
  refine gm_sz (gm_p_load (pc := 1) (i := .aload_n 0) (sr := 2) (j := 0) (by decide +kernel) rfl rfl rfl) ?_
  refine gm_sz (fw_gr (pc := 2) (ix := 34) (ci := 5) (j := 0) (r := 3) (by decide +kernel) (e0k hE (k := 206) (c := 5) (by decide +kernel)) (by decide +kernel) (by decide +kernel) (e0r hE (k := 206) (j := 0) (r := 3) (by decide +kernel))) ?_
  refine gm_sz (fw_gr (pc := 5) (ix := 62) (ci := 1) (j := 11) (r := 8) (by decide +kernel) (e0k hE (k := 3) (c := 1) (by decide +kernel)) (by decide +kernel) (by decide +kernel) (e0r hE (k := 3) (j := 11) (r := 8) (by decide +kernel))) ?_
  refine gm_sz (gm_p_load (pc := 8) (i := .iload_n 1) (sr := 0) (j := 1) (by decide +kernel) rfl rfl rfl) ?_
  refine gm_sz (gm_p_const (pc := 9) (i := .iconst 0) (v := gm_vi 0) (by decide +kernel) (by decide +kernel)) ?_
  refine gm_c_virt (k := 8) (ci := 2) (mj := 10) (ix := 48) (pc := 10) (as := [gm_vi p, gm_vi 0]) (st := [gm_vr 206]) (d' := d - 1) (bc' := 0) (bs' := 0) (by decide +kernel) (by decide +kernel) (by decide +kernel) (by decide +kernel) (e0k hE (k := 8) (c := 2) (by decide +kernel)).1 (e0k hE (k := 8) (c := 2) (by decide +kernel)).2 (by decide) (by decide +kernel) (show 2 = gm_na 10 by decide +kernel) (fw_c2 fw_si fw_si) (show 3 ≤ gm_ml 10 by decide +kernel) (Nat.le_of_ble_eq_true rfl) (by omega) (Nat.zero_le _) (Nat.zero_le _) ?_
  refine rw_none (s := N 3) (e0k hE (k := 8) (c := 2) (by decide +kernel)) (ti_peo hT) (by omega) ⟨⟨by omega, by omega⟩, ⟨by omega, by omega⟩⟩ ?_
  show gm_Wp X LX d _ _ 170 13 _ [gm_vi (-1), gm_vr 206] n K _ _ Q
  refine gm_sz (gm_p_load (pc := 13) (i := .aload_n 0) (sr := 2) (j := 0) (by decide +kernel) rfl rfl rfl) ?_
  refine gm_sz (fw_gr (pc := 14) (ix := 34) (ci := 5) (j := 0) (r := 3) (by decide +kernel) (e0k hE (k := 206) (c := 5) (by decide +kernel)) (by decide +kernel) (by decide +kernel) (e0r hE (k := 206) (j := 0) (r := 3) (by decide +kernel))) ?_
  refine gm_sz (fw_gr (pc := 17) (ix := 62) (ci := 1) (j := 11) (r := 8) (by decide +kernel) (e0k hE (k := 3) (c := 1) (by decide +kernel)) (by decide +kernel) (by decide +kernel) (e0r hE (k := 3) (j := 11) (r := 8) (by decide +kernel))) ?_
  refine gm_sz (gm_p_load (pc := 20) (i := .iload_n 1) (sr := 0) (j := 1) (by decide +kernel) rfl rfl rfl) ?_
  refine gm_sz (gm_p_const (pc := 21) (i := .iconst 1) (v := gm_vi 1) (by decide +kernel) (by decide +kernel)) ?_
  refine gm_c_virt (k := 8) (ci := 2) (mj := 10) (ix := 48) (pc := 22) (as := [gm_vi p, gm_vi 1]) (st := [gm_vi (-1), gm_vr 206]) (d' := d - 1) (bc' := 0) (bs' := 0) (by decide +kernel) (by decide +kernel) (by decide +kernel) (by decide +kernel) (e0k hE (k := 8) (c := 2) (by decide +kernel)).1 (e0k hE (k := 8) (c := 2) (by decide +kernel)).2 (by decide) (by decide +kernel) (show 2 = gm_na 10 by decide +kernel) (fw_c2 fw_si fw_si) (show 3 ≤ gm_ml 10 by decide +kernel) (Nat.le_of_ble_eq_true rfl) (by omega) (Nat.zero_le _) (Nat.zero_le _) ?_
  refine rw_none (s := N 3) (e0k hE (k := 8) (c := 2) (by decide +kernel)) (ti_peo hT) (by omega) ⟨⟨by omega, by omega⟩, ⟨by omega, by omega⟩⟩ ?_
  show gm_Wp X LX d _ _ 170 25 _ [gm_vi (-1), gm_vi (-1), gm_vr 206] n K _ _ Q
  refine gm_sz (gm_p_load (pc := 25) (i := .iload_n 2) (sr := 0) (j := 2) (by decide +kernel) rfl rfl rfl) ?_
  refine gm_sz (gm_p_const (pc := 26) (i := .iconst 0) (v := gm_vi 0) (by decide +kernel) (by decide +kernel)) ?_
  refine gm_c_virt (k := 206) (ci := 5) (mj := 29) (ix := 58) (pc := 27) (as := [gm_vi (-1), gm_vi (-1), gm_vi year, gm_vi 0]) (st := []) (d' := d - 1) (bc' := 0) (bs' := 0) (by decide +kernel) (by decide +kernel) (by decide +kernel) (by decide +kernel) (e0k hE (k := 206) (c := 5) (by decide +kernel)).1 (e0k hE (k := 206) (c := 5) (by decide +kernel)).2 (by decide) (by decide +kernel) (show 4 = gm_na 29 by decide +kernel) (fw_c4 fw_si fw_si fw_si fw_si) (show 5 ≤ gm_ml 29 by decide +kernel) (Nat.le_of_ble_eq_true rfl) (by omega) (Nat.zero_le _) (Nat.zero_le _) ?_
  refine wy_st206 hE hT hN ⟨by decide, by decide⟩ ?_
  show gm_Wp X LX d _ _ 170 30 _ [] n K _ _ Q
  exact gm_r_void (pc := 30) (by decide +kernel) (by decide +kernel) q0
def q27_206p : ck_Sum := ((2, 0, 0), 249, [.inr (.inr (.inl 206)), .inl (0, 23, [])], ([], [], []), ([(206, 2, 8)], []), [(.inr none, 249, ([], [], [(206, 8, 8, ck_one 0), (206, 6, 6, ck_one 0), (206, 4, 4, ck_one (-1)), (206, 7, 7, ((-1), 299, [])), (206, 5, 5, ((-1), 299, [])), (206, 2, 2, ((-1), 299, []))]))])
def q27_206 : ck_Sum := ((2, 0, 0), 249, [.inr (.inr (.inl 206)), .inl (0, 23, [])], ([], [], []), ([(206, 2, 8)], []), [(.inr none, 249, ([], [], [(206, 8, 8, ck_one 0), (206, 6, 6, ck_one 0), (206, 4, 4, ck_one (-1)), (206, 7, 7, (0, 299, [])), (206, 5, 5, (0, 98, [])), (206, 2, 2, (0, 6, []))])), (.inr none, 249, ([], [], [(206, 8, 8, ck_one 0), (206, 6, 6, ck_one 0), (206, 4, 4, ck_one (-1)), (206, 7, 7, ((-1), (-1), [])), (206, 5, 5, ((-1), (-1), [])), (206, 2, 2, ((-1), (-1), []))]))])
theorem q27_206_s (hS : ck_Ok p2_OL X LX 27 q27_206p) : ck_Ok qL_O X LX 27 q27_206 := by
  intro d σ vs n K R M hd hn hvs hσ hF hf
  obtain ⟨v0, w0, rfl, g0, v1, w1, rfl, ⟨x0, rfl, r0, l0, u0, -⟩, g9⟩ := hvs
  have g9 : w1 = [] := g9
  subst g9
  have g0 : v0 = gm_vr 206 := g0
  subst g0
  have l0 : (0 : Int) ≤ x0 := l0
  have u0 : x0 ≤ (23 : Int) := u0
  have hn : n = 249 := hn
  subst hn
  have hd : 2 ≤ d := hd
  have F0 := pl_o (qL_p hF)
  have hrow := hS d σ [gm_vr 206, gm_vi x0] 249 K R M (show 2 ≤ d by omega) rfl ⟨_, _, rfl, rfl, _, _, rfl, ⟨x0, rfl, r0, l0, u0, fun _ h => nomatch h⟩, rfl⟩ (fun q hq => hσ q (List.mem_append_left _ hq)) (qL_p hF) ⟨(fun _ h => nomatch h), (fun _ h => nomatch h), (fun _ h => nomatch h)⟩
  have hq : ∃ N ls, qC (some ls) N M := by
    obtain ⟨hJ, N, ls, hq, -⟩ := hF.2.2.2.2
    exact ⟨N, ls, hq⟩
  obtain ⟨N, ls, hq⟩ := hq
  have hT := ti_x (cstF F0) hq.2.1
  have hN := hq.1.1.1
  have hE := e0F F0
  have hfun : gm_Wp X LX d 0 0 27 0 (gm_ent 27 [gm_vr 206, gm_vi x0]) [] 249 K R M (fun o n1 K1 R1 M1 => K1 = K ∧ (((0 ≤ M1 206 2 ∧ M1 206 2 ≤ 6) ∧ (0 ≤ M1 206 5 ∧ M1 206 5 ≤ 98) ∧ (0 ≤ M1 206 7 ∧ M1 206 7 ≤ 299)) ∨ (M1 206 2 = -1 ∧ M1 206 5 = -1 ∧ M1 206 7 = -1))) := by
    by_cases h4 : x0 < N 4
    · refine wy_let206 (by omega) hE hT hN ⟨l0, h4⟩ ⟨rfl, Or.inl ?_⟩
      have hB := hN.2.2.2.2 x0 l0 h4
      have b0 := hN.1.1
      have b1 := hN.1.2.1
      have b9 := hN.1.2.2.2.2.2
      have z2 : wy_l206 M N x0 206 2 = N (119 + (x0 * 7 + 2)) := by simp [wy_l206, gm_uM]
      have z5 : wy_l206 M N x0 206 5 = N (119 + (x0 * 7 + 4)) := by simp [wy_l206, gm_uM]
      have z7 : wy_l206 M N x0 206 7 = N (119 + (x0 * 7 + 3)) := by simp [wy_l206, gm_uM]
      rw [z2, z5, z7]
      obtain ⟨-, -, c2, c3, c4, -⟩ := hB
      exact ⟨⟨c2.1, by omega⟩, ⟨c4.1, by omega⟩, ⟨c3.1, by omega⟩⟩
    · refine ln_let206 (by omega) hE hT hN ⟨by omega, by omega⟩ ⟨rfl, Or.inr ?_⟩
      have z2 : ln_l206 M 206 2 = -1 := by simp [ln_l206, gm_uM]
      have z5 : ln_l206 M 206 5 = -1 := by simp [ln_l206, gm_uM]
      have z7 : ln_l206 M 206 7 = -1 := by simp [ln_l206, gm_uM]
      exact ⟨z2, z5, z7⟩
  refine gm_Wp_mono (fun o n2 K2 R2 M2 hh => ?_) (gm_Wp_and hrow hfun)
  obtain ⟨⟨hF2, hfr, oc, hoc, ho, hn2, hf2⟩, o3, n3, K3, R3, M3, ⟨rfl, hI⟩, -, hdt⟩ := hh
  have hKK : ∀ k, 1 ≤ k → k ≤ 249 → K3 k = K2 k := fun k _ hk => (hfr.2.1 k hk).symm
  have e1 : ∀ k j, k ≤ 249 → ¬ k = 206 → M2 k j = M k j := fun k j hk h => hfr.2.2.1 k j hk (fun w hw hh => by
    have := of_decide_eq_true (List.all_eq_true.mp (show q27_206p.2.2.2.2.1.1.all (fun w => decide (w.1 = 206)) = true by decide) w hw)
    omega)
  have e2 : M2 206 2 = gm_w (M3 206 2) := dw_f (dt_sym hdt) (by decide) hKK (pl_o hF2) (show tyF 206 5 2 = true by decide +kernel)
  rw [dw_i ⟨by omega, by omega⟩] at e2
  have e5 : M2 206 5 = gm_w (M3 206 5) := dw_f (dt_sym hdt) (by decide) hKK (pl_o hF2) (show tyF 206 5 5 = true by decide +kernel)
  rw [dw_i ⟨by omega, by omega⟩] at e5
  have e7 : M2 206 7 = gm_w (M3 206 7) := dw_f (dt_sym hdt) (by decide) hKK (pl_o hF2) (show tyF 206 5 7 = true by decide +kernel)
  rw [dw_i ⟨by omega, by omega⟩] at e7
  have ho2 := List.mem_singleton.mp hoc
  subst ho2
  have hF9 : gm_Fx qL_O n2 K2 R2 M2 := qL_b hF (by decide) hF2 hfr (fun N2 ls2 hq2 hk2 hw2 hlr2 => ⟨by
    rw [e1 1 15 (by decide) (by decide)]
    exact hq2.2.2.imp_right fun hh => ⟨hh.1, ends_x hh.2 (fun k j hk => e1 k j (by omega) (by omega))⟩, kfl_b hk2 ⟨by have := hq2.1.1.1.1.1; omega, by have := hq2.1.1.1.1.2.1; omega⟩ (e1 200 6 (by decide) (by decide)) (fun j _ _ => e1 205 j (by decide) (by decide))⟩)
  have hcn : 206 ≤ n2 := by have := hfr.1; omega
  have k8 := hf2.2.2 (206, 8, 8, ck_one 0) List.mem_cons_self
  have k6 := hf2.2.2 (206, 6, 6, ck_one 0) (List.mem_cons_of_mem _ List.mem_cons_self)
  have k4 := hf2.2.2 (206, 4, 4, ck_one (-1)) (List.mem_cons_of_mem _ (List.mem_cons_of_mem _ List.mem_cons_self))
  rcases hI with ⟨i2, i5, i7⟩ | ⟨i2, i5, i7⟩
  · refine ⟨hF9, hfr, _, List.mem_cons_self, ho, hn2, (fun _ h => nomatch h), (fun _ h => nomatch h), fun q hq9 => ?_⟩
    simp only [List.mem_cons, List.not_mem_nil, or_false] at hq9
    rcases hq9 with rfl | rfl | rfl | rfl | rfl | rfl
    · exact k8
    · exact k6
    · exact k4
    · refine ⟨hcn, fun j j1 j2 => ?_⟩
      have ej : j = 7 := Int.le_antisymm j2 j1
      subst ej
      exact ⟨(show gm_ir (M2 206 7) from ⟨by omega, by omega⟩), (show 0 ≤ M2 206 7 by omega), (show M2 206 7 ≤ 299 by omega), fun _ h => nomatch h⟩
    · refine ⟨hcn, fun j j1 j2 => ?_⟩
      have ej : j = 5 := Int.le_antisymm j2 j1
      subst ej
      exact ⟨(show gm_ir (M2 206 5) from ⟨by omega, by omega⟩), (show 0 ≤ M2 206 5 by omega), (show M2 206 5 ≤ 98 by omega), fun _ h => nomatch h⟩
    · refine ⟨hcn, fun j j1 j2 => ?_⟩
      have ej : j = 2 := Int.le_antisymm j2 j1
      subst ej
      exact ⟨(show gm_ir (M2 206 2) from ⟨by omega, by omega⟩), (show 0 ≤ M2 206 2 by omega), (show M2 206 2 ≤ 6 by omega), fun _ h => nomatch h⟩
  · refine ⟨hF9, hfr, _, (List.mem_cons_of_mem _ List.mem_cons_self), ho, hn2, (fun _ h => nomatch h), (fun _ h => nomatch h), fun q hq9 => ?_⟩
    simp only [List.mem_cons, List.not_mem_nil, or_false] at hq9
    rcases hq9 with rfl | rfl | rfl | rfl | rfl | rfl
    · exact k8
    · exact k6
    · exact k4
    · refine ⟨hcn, fun j j1 j2 => ?_⟩
      have ej : j = 7 := Int.le_antisymm j2 j1
      subst ej
      exact ⟨(show gm_ir (M2 206 7) from ⟨by omega, by omega⟩), (show -1 ≤ M2 206 7 by omega), (show M2 206 7 ≤ -1 by omega), fun _ h => nomatch h⟩
    · refine ⟨hcn, fun j j1 j2 => ?_⟩
      have ej : j = 5 := Int.le_antisymm j2 j1
      subst ej
      exact ⟨(show gm_ir (M2 206 5) from ⟨by omega, by omega⟩), (show -1 ≤ M2 206 5 by omega), (show M2 206 5 ≤ -1 by omega), fun _ h => nomatch h⟩
    · refine ⟨hcn, fun j j1 j2 => ?_⟩
      have ej : j = 2 := Int.le_antisymm j2 j1
      subst ej
      exact ⟨(show gm_ir (M2 206 2) from ⟨by omega, by omega⟩), (show -1 ≤ M2 206 2 by omega), (show M2 206 2 ≤ -1 by omega), fun _ h => nomatch h⟩
def q27_207p : ck_Sum := ((2, 0, 0), 249, [.inr (.inr (.inl 207)), .inl (0, 23, [])], ([], [], []), ([(207, 2, 8)], []), [(.inr none, 249, ([], [], [(207, 8, 8, ck_one 0), (207, 6, 6, ck_one 0), (207, 7, 7, ((-1), 299, [])), (207, 5, 5, ((-1), 299, []))]))])
def q27_207 : ck_Sum := ((2, 0, 0), 249, [.inr (.inr (.inl 207)), .inl (0, 23, [])], ([], [], []), ([(207, 2, 8)], []), [(.inr none, 249, ([], [], [(207, 8, 8, ck_one 0), (207, 6, 6, ck_one 0), (207, 7, 7, (0, 299, [])), (207, 5, 5, (0, 98, [])), (207, 2, 2, (0, 6, []))])), (.inr none, 249, ([], [], [(207, 8, 8, ck_one 0), (207, 6, 6, ck_one 0), (207, 7, 7, ((-1), (-1), [])), (207, 5, 5, ((-1), (-1), [])), (207, 2, 2, ((-1), (-1), []))]))])
theorem q27_207_s (hS : ck_Ok p2_OL X LX 27 q27_207p) : ck_Ok qL_O X LX 27 q27_207 := by
  intro d σ vs n K R M hd hn hvs hσ hF hf
  obtain ⟨v0, w0, rfl, g0, v1, w1, rfl, ⟨x0, rfl, r0, l0, u0, -⟩, g9⟩ := hvs
  have g9 : w1 = [] := g9
  subst g9
  have g0 : v0 = gm_vr 207 := g0
  subst g0
  have l0 : (0 : Int) ≤ x0 := l0
  have u0 : x0 ≤ (23 : Int) := u0
  have hn : n = 249 := hn
  subst hn
  have hd : 2 ≤ d := hd
  have F0 := pl_o (qL_p hF)
  have hrow := hS d σ [gm_vr 207, gm_vi x0] 249 K R M (show 2 ≤ d by omega) rfl ⟨_, _, rfl, rfl, _, _, rfl, ⟨x0, rfl, r0, l0, u0, fun _ h => nomatch h⟩, rfl⟩ (fun q hq => hσ q (List.mem_append_left _ hq)) (qL_p hF) ⟨(fun _ h => nomatch h), (fun _ h => nomatch h), (fun _ h => nomatch h)⟩
  have hq : ∃ N ls, qC (some ls) N M := by
    obtain ⟨hJ, N, ls, hq, -⟩ := hF.2.2.2.2
    exact ⟨N, ls, hq⟩
  obtain ⟨N, ls, hq⟩ := hq
  have hT := ti_x (cstF F0) hq.2.1
  have hN := hq.1.1.1
  have hE := e0F F0
  have hfun : gm_Wp X LX d 0 0 27 0 (gm_ent 27 [gm_vr 207, gm_vi x0]) [] 249 K R M (fun o n1 K1 R1 M1 => K1 = K ∧ (((0 ≤ M1 207 2 ∧ M1 207 2 ≤ 6) ∧ (0 ≤ M1 207 5 ∧ M1 207 5 ≤ 98) ∧ (0 ≤ M1 207 7 ∧ M1 207 7 ≤ 299)) ∨ (M1 207 2 = -1 ∧ M1 207 5 = -1 ∧ M1 207 7 = -1))) := by
    by_cases h4 : x0 < N 4
    · refine wy_let207 (by omega) hE hT hN ⟨l0, h4⟩ ⟨rfl, Or.inl ?_⟩
      have hB := hN.2.2.2.2 x0 l0 h4
      have b0 := hN.1.1
      have b1 := hN.1.2.1
      have b9 := hN.1.2.2.2.2.2
      have z2 : wy_l207 M N x0 207 2 = N (119 + (x0 * 7 + 2)) := by simp [wy_l207, gm_uM]
      have z5 : wy_l207 M N x0 207 5 = N (119 + (x0 * 7 + 4)) := by simp [wy_l207, gm_uM]
      have z7 : wy_l207 M N x0 207 7 = N (119 + (x0 * 7 + 3)) := by simp [wy_l207, gm_uM]
      rw [z2, z5, z7]
      obtain ⟨-, -, c2, c3, c4, -⟩ := hB
      exact ⟨⟨c2.1, by omega⟩, ⟨c4.1, by omega⟩, ⟨c3.1, by omega⟩⟩
    · refine ln_let207 (by omega) hE hT hN ⟨by omega, by omega⟩ ⟨rfl, Or.inr ?_⟩
      have z2 : ln_l207 M 207 2 = -1 := by simp [ln_l207, gm_uM]
      have z5 : ln_l207 M 207 5 = -1 := by simp [ln_l207, gm_uM]
      have z7 : ln_l207 M 207 7 = -1 := by simp [ln_l207, gm_uM]
      exact ⟨z2, z5, z7⟩
  refine gm_Wp_mono (fun o n2 K2 R2 M2 hh => ?_) (gm_Wp_and hrow hfun)
  obtain ⟨⟨hF2, hfr, oc, hoc, ho, hn2, hf2⟩, o3, n3, K3, R3, M3, ⟨rfl, hI⟩, -, hdt⟩ := hh
  have hKK : ∀ k, 1 ≤ k → k ≤ 249 → K3 k = K2 k := fun k _ hk => (hfr.2.1 k hk).symm
  have e1 : ∀ k j, k ≤ 249 → ¬ k = 207 → M2 k j = M k j := fun k j hk h => hfr.2.2.1 k j hk (fun w hw hh => by
    have := of_decide_eq_true (List.all_eq_true.mp (show q27_207p.2.2.2.2.1.1.all (fun w => decide (w.1 = 207)) = true by decide) w hw)
    omega)
  have e2 : M2 207 2 = gm_w (M3 207 2) := dw_f (dt_sym hdt) (by decide) hKK (pl_o hF2) (show tyF 207 5 2 = true by decide +kernel)
  rw [dw_i ⟨by omega, by omega⟩] at e2
  have e5 : M2 207 5 = gm_w (M3 207 5) := dw_f (dt_sym hdt) (by decide) hKK (pl_o hF2) (show tyF 207 5 5 = true by decide +kernel)
  rw [dw_i ⟨by omega, by omega⟩] at e5
  have e7 : M2 207 7 = gm_w (M3 207 7) := dw_f (dt_sym hdt) (by decide) hKK (pl_o hF2) (show tyF 207 5 7 = true by decide +kernel)
  rw [dw_i ⟨by omega, by omega⟩] at e7
  have ho2 := List.mem_singleton.mp hoc
  subst ho2
  have hF9 : gm_Fx qL_O n2 K2 R2 M2 := qL_b hF (by decide) hF2 hfr (fun N2 ls2 hq2 hk2 hw2 hlr2 => ⟨by
    rw [e1 1 15 (by decide) (by decide)]
    exact hq2.2.2.imp_right fun hh => ⟨hh.1, ends_x hh.2 (fun k j hk => e1 k j (by omega) (by omega))⟩, kfl_b hk2 ⟨by have := hq2.1.1.1.1.1; omega, by have := hq2.1.1.1.1.2.1; omega⟩ (e1 200 6 (by decide) (by decide)) (fun j _ _ => e1 205 j (by decide) (by decide))⟩)
  have hcn : 207 ≤ n2 := by have := hfr.1; omega
  have k8 := hf2.2.2 (207, 8, 8, ck_one 0) List.mem_cons_self
  have k6 := hf2.2.2 (207, 6, 6, ck_one 0) (List.mem_cons_of_mem _ List.mem_cons_self)
  rcases hI with ⟨i2, i5, i7⟩ | ⟨i2, i5, i7⟩
  · refine ⟨hF9, hfr, _, List.mem_cons_self, ho, hn2, (fun _ h => nomatch h), (fun _ h => nomatch h), fun q hq9 => ?_⟩
    simp only [List.mem_cons, List.not_mem_nil, or_false] at hq9
    rcases hq9 with rfl | rfl | rfl | rfl | rfl
    · exact k8
    · exact k6
    · refine ⟨hcn, fun j j1 j2 => ?_⟩
      have ej : j = 7 := Int.le_antisymm j2 j1
      subst ej
      exact ⟨(show gm_ir (M2 207 7) from ⟨by omega, by omega⟩), (show 0 ≤ M2 207 7 by omega), (show M2 207 7 ≤ 299 by omega), fun _ h => nomatch h⟩
    · refine ⟨hcn, fun j j1 j2 => ?_⟩
      have ej : j = 5 := Int.le_antisymm j2 j1
      subst ej
      exact ⟨(show gm_ir (M2 207 5) from ⟨by omega, by omega⟩), (show 0 ≤ M2 207 5 by omega), (show M2 207 5 ≤ 98 by omega), fun _ h => nomatch h⟩
    · refine ⟨hcn, fun j j1 j2 => ?_⟩
      have ej : j = 2 := Int.le_antisymm j2 j1
      subst ej
      exact ⟨(show gm_ir (M2 207 2) from ⟨by omega, by omega⟩), (show 0 ≤ M2 207 2 by omega), (show M2 207 2 ≤ 6 by omega), fun _ h => nomatch h⟩
  · refine ⟨hF9, hfr, _, (List.mem_cons_of_mem _ List.mem_cons_self), ho, hn2, (fun _ h => nomatch h), (fun _ h => nomatch h), fun q hq9 => ?_⟩
    simp only [List.mem_cons, List.not_mem_nil, or_false] at hq9
    rcases hq9 with rfl | rfl | rfl | rfl | rfl
    · exact k8
    · exact k6
    · refine ⟨hcn, fun j j1 j2 => ?_⟩
      have ej : j = 7 := Int.le_antisymm j2 j1
      subst ej
      exact ⟨(show gm_ir (M2 207 7) from ⟨by omega, by omega⟩), (show -1 ≤ M2 207 7 by omega), (show M2 207 7 ≤ -1 by omega), fun _ h => nomatch h⟩
    · refine ⟨hcn, fun j j1 j2 => ?_⟩
      have ej : j = 5 := Int.le_antisymm j2 j1
      subst ej
      exact ⟨(show gm_ir (M2 207 5) from ⟨by omega, by omega⟩), (show -1 ≤ M2 207 5 by omega), (show M2 207 5 ≤ -1 by omega), fun _ h => nomatch h⟩
    · refine ⟨hcn, fun j j1 j2 => ?_⟩
      have ej : j = 2 := Int.le_antisymm j2 j1
      subst ej
      exact ⟨(show gm_ir (M2 207 2) from ⟨by omega, by omega⟩), (show -1 ≤ M2 207 2 by omega), (show M2 207 2 ≤ -1 by omega), fun _ h => nomatch h⟩
def q170p : ck_Sum := ((1, 0, 0), 249, [.inr (.inr (.inl 206)), .inl (0, 7, []), .inl (0, 299, [])], ([], [], []), ([(206, 2, 8)], []), [(.inr none, 249, ([], [], [(206, 8, 8, ck_one 0), (206, 6, 6, ck_one 0), (206, 4, 4, ck_one (-1)), (206, 7, 7, (0, 299, []))]))])
def q170 : ck_Sum := ((2, 0, 0), 249, [.inr (.inr (.inl 206)), .inl (0, 7, []), .inl (0, 299, [])], ([], [], []), ([(206, 2, 8)], []), [(.inr none, 249, ([], [], [(206, 8, 8, ck_one 0), (206, 6, 6, ck_one 0), (206, 4, 4, ck_one (-1)), (206, 7, 7, (0, 299, [])), (206, 5, 5, (0, 98, [])), (206, 2, 2, (0, 6, []))])), (.inr none, 249, ([], [], [(206, 8, 8, ck_one 0), (206, 6, 6, ck_one 0), (206, 4, 4, ck_one (-1)), (206, 7, 7, (0, 299, [])), (206, 5, 5, ((-1), (-1), [])), (206, 2, 2, ((-1), (-1), []))]))])
theorem q170_s (hS : ck_Ok p2_OL X LX 170 q170p) : ck_Ok qL_O X LX 170 q170 := by
  intro d σ vs n K R M hd hn hvs hσ hF hf
  obtain ⟨v0, w0, rfl, g0, v1, w1, rfl, ⟨x0, rfl, r0, l0, u0, -⟩, v2, w2, rfl, ⟨x1, rfl, r1, l1, u1, -⟩, g9⟩ := hvs
  have g9 : w2 = [] := g9
  subst g9
  have g0 : v0 = gm_vr 206 := g0
  subst g0
  have l0 : (0 : Int) ≤ x0 := l0
  have u0 : x0 ≤ (7 : Int) := u0
  have l1 : (0 : Int) ≤ x1 := l1
  have u1 : x1 ≤ (299 : Int) := u1
  have hn : n = 249 := hn
  subst hn
  have hd : 2 ≤ d := hd
  have F0 := pl_o (qL_p hF)
  have hrow := hS d σ [gm_vr 206, gm_vi x0, gm_vi x1] 249 K R M (show 1 ≤ d by omega) rfl ⟨_, _, rfl, rfl, _, _, rfl, ⟨x0, rfl, r0, l0, u0, fun _ h => nomatch h⟩, _, _, rfl, ⟨x1, rfl, r1, l1, u1, fun _ h => nomatch h⟩, rfl⟩ (fun q hq => hσ q (List.mem_append_left _ hq)) (qL_p hF) ⟨(fun _ h => nomatch h), (fun _ h => nomatch h), (fun _ h => nomatch h)⟩
  have hq : ∃ N ls, qC (some ls) N M := by
    obtain ⟨hJ, N, ls, hq, -⟩ := hF.2.2.2.2
    exact ⟨N, ls, hq⟩
  obtain ⟨N, ls, hq⟩ := hq
  have hT := ti_x (cstF F0) hq.2.1
  have hN := hq.1.1.1
  have hE := e0F F0
  have hfun : gm_Wp X LX d 0 0 170 0 (gm_ent 170 [gm_vr 206, gm_vi x0, gm_vi x1]) [] 249 K R M (fun o n1 K1 R1 M1 => K1 = K ∧ (((0 ≤ M1 206 2 ∧ M1 206 2 ≤ 6) ∧ (0 ≤ M1 206 5 ∧ M1 206 5 ≤ 98) ∧ (0 ≤ M1 206 7 ∧ M1 206 7 ≤ 299)) ∨ (M1 206 2 = -1 ∧ M1 206 5 = -1 ∧ (0 ≤ M1 206 7 ∧ M1 206 7 ≤ 299)))) := by
    by_cases h4 : x0 < N 3
    · refine wy_hut206 (by omega) hE hT hN ⟨l0, h4⟩ ⟨rfl, Or.inl ?_⟩
      have hB := hN.2.2.2.1 x0 l0 h4
      have b0 := hN.1.1
      have b1 := hN.1.2.1
      have z2 : wy_h206 M N x0 x1 206 2 = N (95 + (x0 * 3 + 0)) := by simp [wy_h206, gm_uM]
      have z5 : wy_h206 M N x0 x1 206 5 = N (95 + (x0 * 3 + 1)) := by simp [wy_h206, gm_uM]
      have z7 : wy_h206 M N x0 x1 206 7 = x1 := by simp [wy_h206, gm_uM]
      rw [z2, z5, z7]
      obtain ⟨c2, c3, -⟩ := hB
      exact ⟨⟨c2.1, by omega⟩, ⟨c3.1, by omega⟩, ⟨l1, u1⟩⟩
    · refine ln_hut206 (by omega) hE hT hN ⟨by omega, by omega⟩ ⟨rfl, Or.inr ?_⟩
      have z2 : ln_h206 M x1 206 2 = -1 := by simp [ln_h206, gm_uM]
      have z5 : ln_h206 M x1 206 5 = -1 := by simp [ln_h206, gm_uM]
      have z7 : ln_h206 M x1 206 7 = x1 := by simp [ln_h206, gm_uM]
      exact ⟨z2, z5, by rw [z7]; exact ⟨l1, u1⟩⟩
  refine gm_Wp_mono (fun o n2 K2 R2 M2 hh => ?_) (gm_Wp_and hrow hfun)
  obtain ⟨⟨hF2, hfr, oc, hoc, ho, hn2, hf2⟩, o3, n3, K3, R3, M3, ⟨rfl, hI⟩, -, hdt⟩ := hh
  have hKK : ∀ k, 1 ≤ k → k ≤ 249 → K3 k = K2 k := fun k _ hk => (hfr.2.1 k hk).symm
  have e1 : ∀ k j, k ≤ 249 → ¬ k = 206 → M2 k j = M k j := fun k j hk h => hfr.2.2.1 k j hk (fun w hw hh => by
    have := of_decide_eq_true (List.all_eq_true.mp (show q170p.2.2.2.2.1.1.all (fun w => decide (w.1 = 206)) = true by decide) w hw)
    omega)
  have e2 : M2 206 2 = gm_w (M3 206 2) := dw_f (dt_sym hdt) (by decide) hKK (pl_o hF2) (show tyF 206 5 2 = true by decide +kernel)
  rw [dw_i ⟨by omega, by omega⟩] at e2
  have e5 : M2 206 5 = gm_w (M3 206 5) := dw_f (dt_sym hdt) (by decide) hKK (pl_o hF2) (show tyF 206 5 5 = true by decide +kernel)
  rw [dw_i ⟨by omega, by omega⟩] at e5
  have e7 : M2 206 7 = gm_w (M3 206 7) := dw_f (dt_sym hdt) (by decide) hKK (pl_o hF2) (show tyF 206 5 7 = true by decide +kernel)
  rw [dw_i ⟨by omega, by omega⟩] at e7
  have ho2 := List.mem_singleton.mp hoc
  subst ho2
  have hF9 : gm_Fx qL_O n2 K2 R2 M2 := qL_b hF (by decide) hF2 hfr (fun N2 ls2 hq2 hk2 hw2 hlr2 => ⟨by
    rw [e1 1 15 (by decide) (by decide)]
    exact hq2.2.2.imp_right fun hh => ⟨hh.1, ends_x hh.2 (fun k j hk => e1 k j (by omega) (by omega))⟩, kfl_b hk2 ⟨by have := hq2.1.1.1.1.1; omega, by have := hq2.1.1.1.1.2.1; omega⟩ (e1 200 6 (by decide) (by decide)) (fun j _ _ => e1 205 j (by decide) (by decide))⟩)
  have hcn : 206 ≤ n2 := by have := hfr.1; omega
  have k8 := hf2.2.2 (206, 8, 8, ck_one 0) List.mem_cons_self
  have k6 := hf2.2.2 (206, 6, 6, ck_one 0) (List.mem_cons_of_mem _ List.mem_cons_self)
  have k4 := hf2.2.2 (206, 4, 4, ck_one (-1)) (List.mem_cons_of_mem _ (List.mem_cons_of_mem _ List.mem_cons_self))
  rcases hI with ⟨i2, i5, i7⟩ | ⟨i2, i5, i7⟩
  · refine ⟨hF9, hfr, _, List.mem_cons_self, ho, hn2, (fun _ h => nomatch h), (fun _ h => nomatch h), fun q hq9 => ?_⟩
    simp only [List.mem_cons, List.not_mem_nil, or_false] at hq9
    rcases hq9 with rfl | rfl | rfl | rfl | rfl | rfl
    · exact k8
    · exact k6
    · exact k4
    · refine ⟨hcn, fun j j1 j2 => ?_⟩
      have ej : j = 7 := Int.le_antisymm j2 j1
      subst ej
      exact ⟨(show gm_ir (M2 206 7) from ⟨by omega, by omega⟩), (show 0 ≤ M2 206 7 by omega), (show M2 206 7 ≤ 299 by omega), fun _ h => nomatch h⟩
    · refine ⟨hcn, fun j j1 j2 => ?_⟩
      have ej : j = 5 := Int.le_antisymm j2 j1
      subst ej
      exact ⟨(show gm_ir (M2 206 5) from ⟨by omega, by omega⟩), (show 0 ≤ M2 206 5 by omega), (show M2 206 5 ≤ 98 by omega), fun _ h => nomatch h⟩
    · refine ⟨hcn, fun j j1 j2 => ?_⟩
      have ej : j = 2 := Int.le_antisymm j2 j1
      subst ej
      exact ⟨(show gm_ir (M2 206 2) from ⟨by omega, by omega⟩), (show 0 ≤ M2 206 2 by omega), (show M2 206 2 ≤ 6 by omega), fun _ h => nomatch h⟩
  · refine ⟨hF9, hfr, _, (List.mem_cons_of_mem _ List.mem_cons_self), ho, hn2, (fun _ h => nomatch h), (fun _ h => nomatch h), fun q hq9 => ?_⟩
    simp only [List.mem_cons, List.not_mem_nil, or_false] at hq9
    rcases hq9 with rfl | rfl | rfl | rfl | rfl | rfl
    · exact k8
    · exact k6
    · exact k4
    · refine ⟨hcn, fun j j1 j2 => ?_⟩
      have ej : j = 7 := Int.le_antisymm j2 j1
      subst ej
      exact ⟨(show gm_ir (M2 206 7) from ⟨by omega, by omega⟩), (show 0 ≤ M2 206 7 by omega), (show M2 206 7 ≤ 299 by omega), fun _ h => nomatch h⟩
    · refine ⟨hcn, fun j j1 j2 => ?_⟩
      have ej : j = 5 := Int.le_antisymm j2 j1
      subst ej
      exact ⟨(show gm_ir (M2 206 5) from ⟨by omega, by omega⟩), (show -1 ≤ M2 206 5 by omega), (show M2 206 5 ≤ -1 by omega), fun _ h => nomatch h⟩
    · refine ⟨hcn, fun j j1 j2 => ?_⟩
      have ej : j = 2 := Int.le_antisymm j2 j1
      subst ej
      exact ⟨(show gm_ir (M2 206 2) from ⟨by omega, by omega⟩), (show -1 ≤ M2 206 2 by omega), (show M2 206 2 ≤ -1 by omega), fun _ h => nomatch h⟩
def q29 : ck_Sum := ((0, 0, 0), 249, [.inr (.inr (.inl 206)), .inl (0, 6, []), .inl (0, 98, []), .inl (0, 299, []), .inl (0, 1, [])], ([], [], []), ([(206, 2, 8)], []), [(.inr none, 249, ([], [], [(206, 8, 8, ck_one 0), (206, 6, 6, ck_one 0), (206, 4, 4, ck_one (-1)), (206, 7, 7, (0, 299, [])), (206, 5, 5, (0, 98, [])), (206, 2, 2, (0, 6, []))]))])
theorem q29_e : ck_ok qL_O none [] [] 29 [] 100 q29 = true := by decide +kernel
theorem q29_s : ck_Ok qL_O X LX 29 q29 := ck_ok_s ⟨qL_nmu, ck_E0⟩ ck_X0 ck_l0 q29_e
end SL28
end
/-! 7c29.ft -/
section
/-! FIT, told of the world: it empties the TAPE of both. -/
section FT29
variable {X : Int → Int} {LX : Nat} {O : gm_Or} {g z g1 : Nat} {la la2 : Nat → Nat} {K K2 : gm_K} {R R2 : gm_R} {M M2 : gm_M} {L : gm_L} {st : List gm_V} {Q : gm_Q} {N N0 : Int → Int} {lw lw0 : Option (List lln)} {A A0 : List (Int → Int)} {im im0 : Option ((Int → Int) × Option (List lln))} {t w t0 w0 : Int} {f f0 : Int → Int} {bc bs pc ix : Nat} {l0 l1 l : List ck_Sum} {ds : List (Int × Int)} {S : ck_Sum}
def z_at (S : ck_Sum) (k : Nat) (j : Int) : Bool := S.2.2.2.2.2.all fun oc => oc.2.2.2.2.any fun q => decide (q.1 = k ∧ q.2.1 = j ∧ q.2.2.1 = j ∧ q.2.2.2.1 = 0 ∧ q.2.2.2.2.1 = 0)
theorem z_at_s {σ : Nat → Int} {oc : ck_Oc} {n k : Nat} {j : Int} {K' : gm_K} {R' : gm_R} {M' : gm_M} (h : z_at S k j = true) (hoc : oc ∈ S.2.2.2.2.2) (hf : ck_gf σ oc.2.2 n K' R' M') : M' k j = 0 := by
  obtain ⟨q, hq, h2⟩ := List.any_eq_true.mp (List.all_eq_true.mp h oc hoc)
  obtain ⟨e1, e2, e3, e4, e5⟩ := of_decide_eq_true h2
  have := ((hf.2.2 q hq).2 j (by omega) (by omega)).2
  rw [e1] at this
  have h1 := this.1
  have h2 := this.2.1
  omega
noncomputable def w_ft (O : gm_Or) (z g1 k1 : Nat) (t : Bool) (kk : Nat) (jj : Int) (S : ck_Sum) : Bool := bc_ok O z g1 S && (bc_args S k1 t && (decide (S.1.1 + 1 ≤ 280 ∧ S.1.2.1 ≤ 6 ∧ S.1.2.2 ≤ 600) && (S.2.2.2.2.1.2.isEmpty && ((S.2.2.2.2.1.1.all fun w => !(cKb w || rKb w) || (decide (w.1 = kk) && ((decide (jj - 1 < w.2.1) || !(cKb (w.1, w.2.1, jj - 1) || rKb (w.1, w.2.1, jj - 1))) && (decide (w.2.2 < jj + 1) || !(cKb (w.1, jj + 1, w.2.2) || rKb (w.1, jj + 1, w.2.2)))))) && z_at S kk jj))))
theorem ft_e {n0 n : Nat} {K0 K' : gm_K} {R0 R' : gm_R} {M0 M' : gm_M} {kk : Nat} {jj : Int} (h : (S.2.2.2.2.1.1.all fun w => !(cKb w || rKb w) || (decide (w.1 = kk) && ((decide (jj - 1 < w.2.1) || !(cKb (w.1, w.2.1, jj - 1) || rKb (w.1, w.2.1, jj - 1))) && (decide (w.2.2 < jj + 1) || !(cKb (w.1, jj + 1, w.2.2) || rKb (w.1, jj + 1, w.2.2)))))) = true) (hfr : ck_fr S.2.2.2.2.1 n0 K0 R0 M0 n K' R' M') {k : Nat} {j : Int} (hk : k ≤ n0) (hc : cK k j ∨ rK k j) (hne : ¬ (k = kk ∧ j = jj)) : M' k j = M0 k j := by
  refine hfr.2.2.1 k j hk fun w hw hh => ?_
  have := List.all_eq_true.mp h w hw
  simp only [Bool.or_eq_true, Bool.and_eq_true, Bool.not_eq_true', Bool.or_eq_false_iff, decide_eq_true_eq] at this
  have bad : ∀ {w2 : Nat × Int × Int}, (w2.1 = k ∧ w2.2.1 ≤ j ∧ j ≤ w2.2.2) → cKb w2 = false ∧ rKb w2 = false → False := fun {w2} h2 h3 => by
    rcases hc with hc | hc
    · rw [cKb_s hc h2] at h3; exact absurd h3.1 (by decide)
    · rw [rKb_s hc h2] at h3; exact absurd h3.2 (by decide)
  rcases this with h9 | ⟨h9, h10, h11⟩
  · exact bad hh h9
  · by_cases hj : j < jj
    · rcases h10 with h10 | h10
      · have := hh.2.1
        omega
      · exact bad (w2 := (w.1, w.2.1, jj - 1)) ⟨hh.1, hh.2.1, by show j ≤ jj - 1; omega⟩ h10
    · have : ¬ j = jj := fun e => hne ⟨by rw [← hh.1]; exact h9, e⟩
      rcases h11 with h11 | h11
      · have := hh.2.2
        omega
      · exact bad (w2 := (w.1, jj + 1, w.2.2)) ⟨hh.1, by show jj + 1 ≤ j; omega, hh.2.2⟩ h11
theorem fx_K {k1 : Nat} {tt : Bool} (hb : bg g la K R M) (hz : bs_ok la z g1) (hck : w_ft O z g1 k1 tt 1 1 S = true) (hR : REL la K M N lw A im t w f) (hbc : 6 ≤ bc) (hbs : 600 ≤ bs) (k : mq_K X LX bc bs pc L st Q g (fun la2 K2 M2 => MID la2 K2 M2 N lw A im 0 w f N lw A im t w f) (fun u _ => mq_V S u)) : bc_KX X LX 280 (bc - S.1.2.1) (bs - S.1.2.2) 370 pc L st Q O z g1 g la K M S := by
  simp only [w_ft, Bool.and_eq_true, decide_eq_true_eq, List.isEmpty_iff] at hck
  obtain ⟨-, -, hbd, hR2, hW, hz0⟩ := hck
  intro oc hoc σ u n' K' R' M' _ ho hf hF hfr hb2
  have eR : ∀ k j, k ≤ 245 + 4 * g1 → R' k j = bs_R z g1 k j := fun k j hk => hfr.2.2.2 k j hk (by rw [hR2]; exact fun h => nomatch h)
  have e : ∀ k j, k ≤ 245 → (cK k j ∨ rK k j) → ¬ (k = 1 ∧ j = 1) → bg_M g M M' k j = M k j := fun k j hk h hne => by
    rw [bg_Ms hk, ft_e hW hfr (by omega) h hne, vM hk]
  have e0 : bg_M g M M' 1 1 = 0 := (bg_Ms (show 1 ≤ 245 by decide) 1).trans (z_at_s hz0 hoc hf)
  obtain ⟨hG, hL, hA, hI, ht, hw9, hf9⟩ := hR.1
  refine gm_Wp_wk (Nat.le_refl _) (by omega) (by omega) (k u _ _ _ _ ⟨oc, hoc, σ, ho⟩ hb2 ⟨⟨hG, hL, hA, hI, ⟨by decide, by decide⟩, hw9, hf9⟩, hR.1, lwl_e hR.2.1 hb.2.2.2 (fun s hs => ?_) (e 42 1 (by decide) (Or.inl (by unfold cK; omega)) (by decide)) (fun k k1 k2 => bg_Ks k2) (fun k j k1 k2 => bg_oldM k1 k2), clv_e (clv_t (t2 := 0) hR.2.2.1) (cstF hb2.2.1) (fun k j hk => ?_), rfv_e hR.2.2.2 (fun k j hk => e k j (by have := rk_le hk; omega) (Or.inr hk) (by have := rk_le hk; omega))⟩)
  · show bg_dc la g 0 (R' s 8) = la s
    rw [eR s 8 (by have := bg_ssl hs; omega)]
    exact bg_dcs hz hs
  · by_cases h1 : k = 1 ∧ j = 1
    · obtain ⟨rfl, rfl⟩ := h1
      exact e0.trans uM_at.symm
    · rw [uM_ne h1]
      exact e k j (by have := ck_le hk; omega) (Or.inl hk) h1
theorem fm_K (hb : bg g la K R M) (hck : w_ft p2_O 100003 0 226 false 226 8 S = true) (hR : MID la K M N lw A im 0 w f N lw A im t w f) (hbc : 6 ≤ bc) (hbs : 600 ≤ bs) (k : mq_K X LX bc bs pc L st Q g (fun la2 K2 M2 => REL la2 K2 M2 N lw A im 0 w f) (fun u _ => mq_V S u)) : bc_KX X LX 280 (bc - S.1.2.1) (bs - S.1.2.2) 370 pc L st Q p2_O 100003 0 g la K M S := by
  have hz : bs_ok la 100003 0 := Or.inr (Or.inl ⟨rfl, rfl⟩)
  simp only [w_ft, Bool.and_eq_true, decide_eq_true_eq, List.isEmpty_iff] at hck
  obtain ⟨-, -, hbd, hR2, hW, hz0⟩ := hck
  intro oc hoc σ u n' K' R' M' _ ho hf hF hfr hb2
  have eR : ∀ k j, k ≤ 245 + 4 * 0 → R' k j = bs_R 100003 0 k j := fun k j hk => hfr.2.2.2 k j hk (by rw [hR2]; exact fun h => nomatch h)
  have e : ∀ k j, k ≤ 245 → (cK k j ∨ rK k j) → ¬ (k = 226 ∧ j = 8) → bg_M g M M' k j = M k j := fun k j hk h hne => by
    rw [bg_Ms hk, ft_e hW hfr (by omega) h hne, vM hk]
  have e0 : bg_M g M M' 226 8 = 0 := (bg_Ms (show 226 ≤ 245 by decide) 8).trans (z_at_s hz0 hoc hf)
  obtain ⟨hra, hra0, hL, hC, hV⟩ := hR
  refine gm_Wp_wk (Nat.le_refl _) (by omega) (by omega) (k u _ _ _ _ ⟨oc, hoc, σ, ho⟩ hb2 ⟨hra, lwl_e hL hb.2.2.2 (fun s hs => ?_) (e 42 1 (by decide) (Or.inl (by unfold cK; omega)) (by decide)) (fun k k1 k2 => bg_Ks k2) (fun k j k1 k2 => bg_oldM k1 k2), clv_e hC (cstF hb2.2.1) (fun k j hk => e k j (by have := ck_le hk; omega) (Or.inl hk) (by have := ck_le hk; omega)), rfv_tape hV e0 (fun j j0 j1 => (e 231 j (by decide) (Or.inr (by unfold rK; omega)) (by omega)).trans (hV.2.2.2.2 j j0 j1)) (fun k j hk h1 h2 => e k j (by have := rk_le hk; omega) (Or.inr hk) h2)⟩)
  show bg_dc la g 0 (R' s 8) = la s
  rw [eR s 8 (by have := bg_ssl hs; omega)]
  exact bg_dcs hz hs
end FT29
end
/-! 7c30.rk -/
section
/-! THE REFERENCE'S flowAt: a row under what is kept. -/
section RK30
variable {X : Int → Int} {LX n n1 n2 : Nat} {K K1 K2 : gm_K} {R R2 : gm_R} {M M1 M2 : gm_M} {N h G : Int → Int} {lw : Option (List lln)} {φ : Int → Int → Int → Int}
theorem frx_a (hE : E0 n K R) (hG : LAWG lw G) (hN : NR N) (hS : NSb 6 N) : ∀ (d bc bs : Nat) (M : gm_M) (Q : gm_Q) (lane row year : Int), 12 ≤ d → 0 ≤ lane ∧ lane < 6 → 0 ≤ row ∧ row < 99 → 0 ≤ year ∧ year < 300 → TR N h M → FIR G lw N h M → (∀ M2 v, FIR G lw N h M2 → Q (.inl (some (gm_vi v))) n K R M2) → gm_Wp X LX d bc bs 292 0 (gm_ent 292 [gm_vr 226, gm_vi lane, gm_vi row, gm_vi year]) [] n K R M Q := by
  intro d bc bs M Q lane row year hd hl hr hy hT hI hq
  cases lw with
  | none =>
    have he : ∀ l r y, 0 ≤ l ∧ l < 6 → 0 ≤ r ∧ r < 99 → 0 ≤ y ∧ y < 300 → aphi none N h l r y = rphi0 N l r y := fun l r y hl _ _ => aphi_n hl
    exact re_flr0x hE hN hS (hG.1 rfl) d bc bs M Q lane row year hd hl hr hy hT ⟨(kfr_cg he).mp hI.1, hI.2⟩ (fun M2 _ hI2 => hq M2 _ ⟨(kfr_cg he).mpr hI2.1, hI2.2⟩)
  | some ls =>
    obtain ⟨hW, hR, hL⟩ := hG.2 ls rfl
    have he : ∀ l r y, 0 ≤ l ∧ l < 6 → 0 ≤ r ∧ r < 99 → 0 ≤ y ∧ y < 300 → aphi (some ls) N h l r y = rphi N h (HH ls) G (ls.length : Int) l r y := fun l r y hl _ _ => by rw [aphi_s hl, ← rphi_gcl hR]
    exact re_flrx hE hN hS hL (hhl_x hW hR) d bc bs M Q lane row year hd hl hr hy hT ⟨(kfr_cg he).mp hI.1, hI.2⟩ (fun M2 _ hI2 => hq M2 _ ⟨(kfr_cg he).mpr hI2.1, hI2.2⟩)
theorem kfr_dt (hd : dt_m n K1 M1 K2 M2) (hn : 245 ≤ n) (hK : ∀ k, 1 ≤ k → k ≤ n → K1 k = K2 k) (hF : gm_Fx p2_O n2 K2 R2 M2) (hk : KFR N φ M1) : KFR N φ M2 := by
  have f26 : M2 226 26 = gm_w (M1 226 26) := dw_f hd hn hK hF dr_c2.2.2.2.2
  have c26 : M2 226 26 = M1 226 26 := by rw [f26]; exact dw_i ⟨by have := hk.1.1; omega, by have := hk.1.2; omega⟩
  have c35 : ∀ j, 0 ≤ j → j < 29700 → M2 235 j = M1 235 j := fun j j0 j1 => by
    have := hk.2.1 j j0 j1
    rw [dw_a hd hn hK hF dr_c1.2.2.2.2 j0 (by omega)]
    exact dw_i ⟨by omega, by omega⟩
  refine ⟨by rw [c26]; exact hk.1, fun j j0 j1 => by rw [c35 j j0 j1]; exact hk.2.1 j j0 j1, fun r y l0 l1 r0 r1 y0 y1 => ?_⟩
  rw [c26] at l0 l1 ⊢
  rw [c35 _ (by omega) (by omega)]
  exact hk.2.2 r y l0 l1 r0 r1 y0 y1
def q292_W : List (Nat × Int × Int) × List (Nat × Int) := ([(226, 17, 23), (226, 26, 26), (233, 0, 399), (235, 0, 29699)], [])
def q292p (a b : Int) : ck_Sum := ((4, 0, 0), 245, [.inr (.inr (.inl 226)), .inl (a, b, []), .inl (0, 98, []), .inl (0, 299, [])], ([], [], [(227, 2, 2, (0, 8, [(20, 0)]))]), q292_W, [(.inr (some (.inl (0, 30, []))), 245, ([], [], [(226, 26, 26, (a, b, []))]))])
def q292 : ck_Sum := ((12, 0, 0), 245, [.inr (.inr (.inl 226)), .inl (0, 6, []), .inl (0, 98, []), .inl (0, 299, [])], ([], [], [(227, 2, 2, (0, 8, [(20, 0)]))]), q292_W, [(.inr (some (.inl (0, 30, []))), 245, ([], [], [(226, 26, 26, (0, 6, []))]))])
/-- behind it: the standing condition, if FLOWs that are kept are right -/
theorem qR_b {W : List (Nat × Int × Int) × List (Nat × Int)} (hF : gm_Fx qR_O n K R M) (hW : W.1.all (fun w => decide (w.1 = 226 ∨ w.1 = 233 ∨ w.1 = 235)) = true) (hF2 : gm_Fx p2_O n2 K2 R2 M2) (hfr : ck_fr W n K R M n2 K2 R2 M2) (hx : ∀ N lw, GJ N → TR N (hts (N 13)) M → LAWR lw (M 227) → KFR N (aphi lw N (hts (N 13))) M → KFR N (aphi lw N (hts (N 13))) M2) : gm_Fx qR_O n2 K2 R2 M2 := by
  obtain ⟨hJ, N, lw, hG, hT, hL, hk⟩ := hF.2.2.2.2
  have hn : 245 ≤ n := (k245 (e0F (qR_p hF))).1
  have e : ∀ (k : Nat) (j : Int), k ≤ n → ¬ (k = 226 ∨ k = 233 ∨ k = 235) → M2 k j = M k j := fun k j hk9 h => hfr.2.2.1 k j hk9 (fun w hw hh => by
    have := of_decide_eq_true (List.all_eq_true.mp hW w hw)
    omega)
  have e7 : M2 227 = M 227 := funext fun j => e 227 j (by omega) (by decide)
  exact ⟨hF2.1, hF2.2.1, hF2.2.2.1, fun k r hr => Nat.le_trans (hF.2.2.2.1 k r hr) hfr.1, hF2.2.2.2.2, N, lw, hG, ⟨by rw [e7]; exact hT.1, fun y y0 y1 => by rw [e 234 y (by omega) (by decide)]; exact hT.2 y y0 y1⟩, by rw [e7]; exact hL, hx N lw hG hT hL hk⟩
theorem q292_s (hS : ck_Ok p2_O X LX 292 (q292p 0 6)) (hS6 : ck_Ok p2_O X LX 292 (q292p 6 6)) : ck_Ok qR_O X LX 292 q292 := by
  intro d σ vs n K R M hd hn hvs hσ hF hf
  obtain ⟨v0, w0, rfl, g0, v1, w1, rfl, ⟨l, rfl, hl, l0, l1, -⟩, v2, w2, rfl, ⟨r, rfl, hr, r0, r1, -⟩, v3, w3, rfl, ⟨y, rfl, hy, y0, y1, -⟩, g4⟩ := hvs
  have g4 : w3 = [] := g4
  subst g4
  have g0 : v0 = gm_vr 226 := g0
  subst g0
  have l0 : (0 : Int) ≤ l := l0
  have l1 : l ≤ (6 : Int) := l1
  have r0 : (0 : Int) ≤ r := r0
  have r1 : r ≤ (98 : Int) := r1
  have y0 : (0 : Int) ≤ y := y0
  have y1 : y ≤ (299 : Int) := y1
  have hd : 12 ≤ d := hd
  have hn : n = 245 := hn
  subst hn
  have F0 := qR_p hF
  by_cases h6 : l = 6
  · subst h6
    have hrow := hS6 d σ [gm_vr 226, gm_vi 6, gm_vi r, gm_vi y] 245 K R M (show 4 ≤ d by omega) rfl ⟨_, _, rfl, rfl, _, _, rfl, ⟨6, rfl, hl, Int.le_refl _, Int.le_refl _, fun _ h => nomatch h⟩, _, _, rfl, ⟨r, rfl, hr, r0, r1, fun _ h => nomatch h⟩, _, _, rfl, ⟨y, rfl, hy, y0, y1, fun _ h => nomatch h⟩, rfl⟩ hσ F0 hf
    refine gm_Wp_mono (fun o n2 K2 R2 M2 hh => ?_) hrow
    obtain ⟨hF2, hfr, oc, hoc, ho, hn2, hf2⟩ := hh
    have hoc := List.mem_singleton.mp hoc
    subst hoc
    have f26 := ((hf2.2.2 (226, 26, 26, (6, 6, [])) List.mem_cons_self).2 26 (Int.le_refl _) (Int.le_refl _))
    have z0 : (6 : Int) ≤ M2 226 26 := f26.2.1
    have z1 : M2 226 26 ≤ (6 : Int) := f26.2.2.1
    have t35 := (gm_tyr_s hF2 (show gm_tyr p2_O 235 0 29699 = some (0, 31) by decide +kernel)).2
    refine ⟨qR_b hF (by decide) hF2 hfr (fun N lw _ _ _ _ => ⟨⟨by omega, by omega⟩, fun j j0 j1 => (t35 j j0 (by omega)).2, fun r y h0 h1 => absurd h1 (by omega)⟩), hfr, _, List.mem_cons_self, ho, hn2, (fun _ h => nomatch h), (fun _ h => nomatch h), fun q hq => ?_⟩
    rw [List.mem_singleton.mp hq]
    refine ⟨show 226 ≤ n2 by have := hfr.1; omega, fun j j1 j2 => ?_⟩
    have ej : j = 26 := Int.le_antisymm j2 j1
    subst ej
    exact ⟨f26.1, (show (0 : Int) ≤ M2 226 26 by omega), z1, fun _ h => nomatch h⟩
  · have hrow := hS d σ [gm_vr 226, gm_vi l, gm_vi r, gm_vi y] 245 K R M (show 4 ≤ d by omega) rfl ⟨_, _, rfl, rfl, _, _, rfl, ⟨l, rfl, hl, l0, l1, fun _ h => nomatch h⟩, _, _, rfl, ⟨r, rfl, hr, r0, r1, fun _ h => nomatch h⟩, _, _, rfl, ⟨y, rfl, hy, y0, y1, fun _ h => nomatch h⟩, rfl⟩ hσ F0 hf
    have hJ : ∃ N lw, GJ N ∧ TR N (hts (N 13)) M ∧ LAWR lw (M 227) ∧ KFR N (aphi lw N (hts (N 13))) M := hF.2.2.2.2.2
    obtain ⟨N, lw, hG, hT, hL, hk⟩ := hJ
    have hfun := frx_a (X := X) (LX := LX) (h := hts (N 13)) (e0F F0) (lawg_of hL F0.2.2.2.2.2.2.1) hG.1.1 (ns6 F0 hT.1 hG.1.1) d 0 0 M (fun o n1 K1 R1 M1 => K1 = K ∧ KFR N (aphi lw N (hts (N 13))) M1) l r y hd ⟨l0, by omega⟩ ⟨r0, by omega⟩ ⟨y0, by omega⟩ hT ⟨hk, fun _ _ => rfl⟩ (fun M2 v hI => ⟨rfl, hI.1⟩)
    refine gm_Wp_mono (fun o n2 K2 R2 M2 hh => ?_) (gm_Wp_and hrow hfun)
    obtain ⟨⟨hF2, hfr, hoc⟩, o3, n3, K3, R3, M3, ⟨rfl, hI⟩, -, hdt⟩ := hh
    have hKK : ∀ k, 1 ≤ k → k ≤ 245 → K3 k = K2 k := fun k _ hk => (hfr.2.1 k hk).symm
    have e7 : M2 227 = M 227 := funext fun j => hfr.2.2.1 227 j (by decide) (fun w hw hh => absurd hh (of_decide_eq_true (List.all_eq_true.mp (show q292_W.1.all (fun w => decide (¬ (w.1 = 227 ∧ w.2.1 ≤ j ∧ j ≤ w.2.2))) = true by simp [q292_W]) w hw)))
    have e34 : ∀ j, M2 234 j = M 234 j := fun j => hfr.2.2.1 234 j (by decide) (fun w hw hh => absurd hh (of_decide_eq_true (List.all_eq_true.mp (show q292_W.1.all (fun w => decide (¬ (w.1 = 234 ∧ w.2.1 ≤ j ∧ j ≤ w.2.2))) = true by simp [q292_W]) w hw)))
    exact ⟨⟨hF2.1, hF2.2.1, hF2.2.2.1, fun k r hr => Nat.le_trans (hF.2.2.2.1 k r hr) hfr.1, hF2.2.2.2.2, N, lw, hG, ⟨by rw [e7]; exact hT.1, fun y y0 y1 => by rw [e34 y]; exact hT.2 y y0 y1⟩, by rw [e7]; exact hL, kfr_dt (dt_sym hdt) (by decide) hKK hF2 hI⟩, hfr, hoc⟩
end RK30
end
