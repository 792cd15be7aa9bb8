/-! 7c27.ru -/
section
/-! RUNS of the travellers under a law: FLOWs that are kept stay right. -/
section RU27
variable {X : Int → Int} {LX d : Nat} {K K0 : gm_K} {R R0 : gm_R} {M M0 : gm_M} {Q : gm_Q} {i last : Int}
/-- where a traveller stands: a LANE, a ROW, a YEAR that may be, or none -/
noncomputable def SPc (c : Nat) (i : Int) (M : gm_M) : Prop := (((0 ≤ M c 2 ∧ M c 2 ≤ 6) ∧ 0 ≤ M c 5 ∧ 0 ≤ i) ∨ (M c 2 = -1 ∧ -1 ≤ M c 5 ∧ -1 ≤ i)) ∧ M c 5 ≤ 300 ∧ M c 7 = i
theorem spc_b {c : Nat} (h : SPc c i M) : (-1 ≤ M c 5 ∧ M c 5 ≤ 300) ∧ -1 ≤ i := by unfold SPc at h; omega
theorem q31_206_c (hF : gm_Fx qL_O 249 K R M) (h5 : -1 ≤ M 206 5 ∧ M 206 5 ≤ 300) (q : ∀ v K2 R2 M2, v = 0 ∨ v = 1 → gm_Fx qL_O 249 K2 R2 M2 → ck_fr ([], []) 249 K R M 249 K2 R2 M2 → Q (.inl (some (gm_vi v))) 249 K2 R2 M2) : gm_Wp X LX d 0 0 31 0 (gm_ent 31 [gm_vr 206]) [] 249 K R M Q := by
  have hσ := ck_sn_s (σ := fun _ => 0) (M := M) qL_nmu
  refine gm_Wp_mono (fun o n' K' R' M' hq => ?_) (q31n_206_s d (ck_sn qL_O (fun _ => 0) M) [gm_vr 206] 249 K R M (Nat.zero_le _) rfl ⟨_, _, rfl, rfl, rfl⟩ hσ hF ⟨(fun _ h => nomatch h), (fun _ h => nomatch h), fun q hq => ?_⟩)
  · obtain ⟨hF2, hfr, oc, hoc, ho, hn, -⟩ := hq
    have hoc : oc ∈ [_, _] := hoc
    simp only [List.mem_cons, List.not_mem_nil, or_false] at hoc
    rcases hoc with rfl | rfl
    · have hn : n' = 249 := hn
      subst hn
      rcases o with (_ | v) | x
      · exact absurd ho id
      · obtain ⟨y, rfl, -, y0, y1, -⟩ := ho
        exact q y _ _ _ (Or.inl (Int.le_antisymm y1 y0)) hF2 hfr
      · exact absurd ho id
    · have hn : n' = 249 := hn
      subst hn
      rcases o with (_ | v) | x
      · exact absurd ho id
      · obtain ⟨y, rfl, -, y0, y1, -⟩ := ho
        exact q y _ _ _ (Or.inr (Int.le_antisymm y1 y0)) hF2 hfr
      · exact absurd ho id
  · rw [List.mem_singleton.mp hq]
    refine ⟨by show 206 ≤ 249; decide, fun j j1 j2 => ?_⟩
    have ej : j = 5 := Int.le_antisymm j2 j1
    subst ej
    exact ⟨(show gm_ir (M 206 5) from ⟨by omega, by omega⟩), h5.1, h5.2, fun _ h => nomatch h⟩
noncomputable def q32_206_W : List (Nat × Int × Int) × List (Nat × Int) := ([((200 : Nat), (6 : Int), (6 : Int)), ((204 : Nat), (0 : Int), (9 : Int)), ((205 : Nat), (0 : Int), (14849 : Int)), ((206 : Nat), (5 : Int), (8 : Int))], [])
theorem q32a_206_c (hS : ck_Ok qL_O X LX 32 q32_206) (hd : 13 ≤ d) (hF : gm_Fx qL_O 249 K R M) (h8 : R 3 8 = 246) (s2 : 0 ≤ M 206 2 ∧ M 206 2 ≤ 6) (s5 : 0 ≤ M 206 5 ∧ M 206 5 ≤ 300) (s7 : M 206 7 = i) (hi : 0 ≤ i ∧ i ≤ 299) (q : ∀ K2 R2 M2, gm_Fx qL_O 249 K2 R2 M2 → ck_fr q32_206_W 249 K R M 249 K2 R2 M2 → M2 206 2 = M 206 2 → (0 ≤ M2 206 5 ∧ M2 206 5 ≤ 300) → M2 206 7 = i + 1 → Q (.inl none) 249 K2 R2 M2) : gm_Wp X LX d 0 0 32 0 (gm_ent 32 [gm_vr 206]) [] 249 K R M Q := by
  have hσ := ck_sn_s (σ := fun _ => 0) (M := M) qL_nmu
  have hnm : ck_sn qL_O (fun _ => 0) M 28 = M 206 7 := hσ (28, 206, 7) (by decide)
  refine gm_Wp_mono (fun o n' K' R' M' hq => ?_) (hS d (ck_sn qL_O (fun _ => 0) M) [gm_vr 206] 249 K R M hd rfl ⟨_, _, rfl, rfl, rfl⟩ hσ hF ⟨(fun _ h => nomatch h), fun q hq => ?_, fun q hq => ?_⟩)
  · obtain ⟨hF2, hfr, oc, hoc, ho, hn, hf⟩ := hq
    have hoc := List.mem_singleton.mp hoc
    subst hoc
    have hn : n' = 249 := hn
    subst hn
    rcases o with (_ | v) | x
    · have f5 := ((hf.2.2 (206, 5, 5, (0, 300, [])) List.mem_cons_self).2 5 (Int.le_refl _) (Int.le_refl _)).2
      have f7 := ((hf.2.2 (206, 7, 7, (1, 300, [(28, 1)])) (List.mem_cons_of_mem _ List.mem_cons_self)).2 7 (Int.le_refl _) (Int.le_refl _)).2.2.2
      have e7 : M' 206 7 = ck_sn qL_O (fun _ => 0) M 28 + 1 := (f7 (28, 1) List.mem_cons_self).1 (by decide)
      have e2 : M' 206 2 = M 206 2 := hfr.2.2.1 206 2 (by decide) (fun w hw hh => absurd hh (of_decide_eq_true (List.all_eq_true.mp (show q32_206_W.1.all (fun w => decide (¬ (w.1 = 206 ∧ w.2.1 ≤ 2 ∧ 2 ≤ w.2.2))) = true by decide) w hw)))
      exact q _ _ _ hF2 hfr e2 ⟨f5.1, f5.2.1⟩ (by rw [e7, hnm, s7])
    · exact absurd ho id
    · exact absurd ho id
  · rw [List.mem_singleton.mp hq]
    exact ⟨by show 3 ≤ 249; decide, h8⟩
  · simp only [List.mem_cons, List.not_mem_nil, or_false, q32_206] at hq
    rcases hq with rfl | rfl | rfl
    · refine ⟨by show 206 ≤ 249; decide, fun j j1 j2 => ?_⟩
      have ej : j = 2 := Int.le_antisymm j2 j1
      subst ej
      exact ⟨(show gm_ir (M 206 2) from ⟨by omega, by omega⟩), s2.1, s2.2, fun _ h => nomatch h⟩
    · refine ⟨by show 206 ≤ 249; decide, fun j j1 j2 => ?_⟩
      have ej : j = 5 := Int.le_antisymm j2 j1
      subst ej
      exact ⟨(show gm_ir (M 206 5) from ⟨by omega, by omega⟩), s5.1, s5.2, fun _ h => nomatch h⟩
    · refine ⟨by show 206 ≤ 249; decide, fun j j1 j2 => ?_⟩
      have ej : j = 7 := Int.le_antisymm j2 j1
      subst ej
      exact ⟨(show gm_ir (M 206 7) from ⟨by omega, by omega⟩), (show 0 ≤ M 206 7 by omega), (show M 206 7 ≤ 299 by omega), ck_gt1 (s := 28) (z := 0) (by decide) (by rw [hnm, Int.add_zero])⟩
theorem q32b_206_c (hS : ck_Ok qL_O X LX 32 q32n_206) (hd : 13 ≤ d) (hF : gm_Fx qL_O 249 K R M) (h8 : R 3 8 = 246) (s2 : -1 ≤ M 206 2 ∧ M 206 2 ≤ -1) (s5 : -1 ≤ M 206 5 ∧ M 206 5 ≤ 300) (s7 : M 206 7 = i) (hi : 0 ≤ i ∧ i ≤ 299) (q : ∀ K2 R2 M2, gm_Fx qL_O 249 K2 R2 M2 → ck_fr q32_206_W 249 K R M 249 K2 R2 M2 → M2 206 2 = M 206 2 → (-1 ≤ M2 206 5 ∧ M2 206 5 ≤ 300) → M2 206 7 = i + 1 → Q (.inl none) 249 K2 R2 M2) : gm_Wp X LX d 0 0 32 0 (gm_ent 32 [gm_vr 206]) [] 249 K R M Q := by
  have hσ := ck_sn_s (σ := fun _ => 0) (M := M) qL_nmu
  have hnm : ck_sn qL_O (fun _ => 0) M 28 = M 206 7 := hσ (28, 206, 7) (by decide)
  refine gm_Wp_mono (fun o n' K' R' M' hq => ?_) (hS d (ck_sn qL_O (fun _ => 0) M) [gm_vr 206] 249 K R M hd rfl ⟨_, _, rfl, rfl, rfl⟩ hσ hF ⟨(fun _ h => nomatch h), fun q hq => ?_, fun q hq => ?_⟩)
  · obtain ⟨hF2, hfr, oc, hoc, ho, hn, hf⟩ := hq
    have hoc := List.mem_singleton.mp hoc
    subst hoc
    have hn : n' = 249 := hn
    subst hn
    rcases o with (_ | v) | x
    · have f5 := ((hf.2.2 (206, 5, 5, ((-1), 300, [])) List.mem_cons_self).2 5 (Int.le_refl _) (Int.le_refl _)).2
      have f7 := ((hf.2.2 (206, 7, 7, (1, 300, [(28, 1)])) (List.mem_cons_of_mem _ List.mem_cons_self)).2 7 (Int.le_refl _) (Int.le_refl _)).2.2.2
      have e7 : M' 206 7 = ck_sn qL_O (fun _ => 0) M 28 + 1 := (f7 (28, 1) List.mem_cons_self).1 (by decide)
      have e2 : M' 206 2 = M 206 2 := hfr.2.2.1 206 2 (by decide) (fun w hw hh => absurd hh (of_decide_eq_true (List.all_eq_true.mp (show q32_206_W.1.all (fun w => decide (¬ (w.1 = 206 ∧ w.2.1 ≤ 2 ∧ 2 ≤ w.2.2))) = true by decide) w hw)))
      exact q _ _ _ hF2 hfr e2 ⟨f5.1, f5.2.1⟩ (by rw [e7, hnm, s7])
    · exact absurd ho id
    · exact absurd ho id
  · rw [List.mem_singleton.mp hq]
    exact ⟨by show 3 ≤ 249; decide, h8⟩
  · simp only [List.mem_cons, List.not_mem_nil, or_false, q32n_206] at hq
    rcases hq with rfl | rfl | rfl
    · refine ⟨by show 206 ≤ 249; decide, fun j j1 j2 => ?_⟩
      have ej : j = 2 := Int.le_antisymm j2 j1
      subst ej
      exact ⟨(show gm_ir (M 206 2) from ⟨by omega, by omega⟩), s2.1, s2.2, fun _ h => nomatch h⟩
    · refine ⟨by show 206 ≤ 249; decide, fun j j1 j2 => ?_⟩
      have ej : j = 5 := Int.le_antisymm j2 j1
      subst ej
      exact ⟨(show gm_ir (M 206 5) from ⟨by omega, by omega⟩), s5.1, s5.2, fun _ h => nomatch h⟩
    · refine ⟨by show 206 ≤ 249; decide, fun j j1 j2 => ?_⟩
      have ej : j = 7 := Int.le_antisymm j2 j1
      subst ej
      exact ⟨(show gm_ir (M 206 7) from ⟨by omega, by omega⟩), (show 0 ≤ M 206 7 by omega), (show M 206 7 ≤ 299 by omega), ck_gt1 (s := 28) (z := 0) (by decide) (by rw [hnm, Int.add_zero])⟩
theorem q32d_206_c (hS : ck_Ok qL_O X LX 32 q32m_206) (hd : 13 ≤ d) (hF : gm_Fx qL_O 249 K R M) (h8 : R 3 8 = 246) (s2 : -1 ≤ M 206 2 ∧ M 206 2 ≤ -1) (s5 : -1 ≤ M 206 5 ∧ M 206 5 ≤ 300) (s7 : M 206 7 = i) (hi : -1 ≤ i ∧ i ≤ -1) (q : ∀ K2 R2 M2, gm_Fx qL_O 249 K2 R2 M2 → ck_fr q32_206_W 249 K R M 249 K2 R2 M2 → M2 206 2 = M 206 2 → (-1 ≤ M2 206 5 ∧ M2 206 5 ≤ 300) → M2 206 7 = i + 1 → Q (.inl none) 249 K2 R2 M2) : gm_Wp X LX d 0 0 32 0 (gm_ent 32 [gm_vr 206]) [] 249 K R M Q := by
  have hσ := ck_sn_s (σ := fun _ => 0) (M := M) qL_nmu
  refine gm_Wp_mono (fun o n' K' R' M' hq => ?_) (hS d (ck_sn qL_O (fun _ => 0) M) [gm_vr 206] 249 K R M hd rfl ⟨_, _, rfl, rfl, rfl⟩ hσ hF ⟨(fun _ h => nomatch h), fun q hq => ?_, fun q hq => ?_⟩)
  · obtain ⟨hF2, hfr, oc, hoc, ho, hn, hf⟩ := hq
    have hoc := List.mem_singleton.mp hoc
    subst hoc
    have hn : n' = 249 := hn
    subst hn
    rcases o with (_ | v) | x
    · have f5 := ((hf.2.2 (206, 5, 5, ((-1), 300, [])) List.mem_cons_self).2 5 (Int.le_refl _) (Int.le_refl _)).2
      have f7 := ((hf.2.2 (206, 7, 7, (0, 0, [])) (List.mem_cons_of_mem _ List.mem_cons_self)).2 7 (Int.le_refl _) (Int.le_refl _)).2
      have e7 : M' 206 7 = 0 := Int.le_antisymm f7.2.1 f7.1
      have e2 : M' 206 2 = M 206 2 := hfr.2.2.1 206 2 (by decide) (fun w hw hh => absurd hh (of_decide_eq_true (List.all_eq_true.mp (show q32_206_W.1.all (fun w => decide (¬ (w.1 = 206 ∧ w.2.1 ≤ 2 ∧ 2 ≤ w.2.2))) = true by decide) w hw)))
      exact q _ _ _ hF2 hfr e2 ⟨f5.1, f5.2.1⟩ (by rw [e7]; omega)
    · exact absurd ho id
    · exact absurd ho id
  · rw [List.mem_singleton.mp hq]
    exact ⟨by show 3 ≤ 249; decide, h8⟩
  · simp only [List.mem_cons, List.not_mem_nil, or_false, q32m_206] at hq
    rcases hq with rfl | rfl | rfl
    · refine ⟨by show 206 ≤ 249; decide, fun j j1 j2 => ?_⟩
      have ej : j = 2 := Int.le_antisymm j2 j1
      subst ej
      exact ⟨(show gm_ir (M 206 2) from ⟨by omega, by omega⟩), s2.1, s2.2, fun _ h => nomatch h⟩
    · refine ⟨by show 206 ≤ 249; decide, fun j j1 j2 => ?_⟩
      have ej : j = 5 := Int.le_antisymm j2 j1
      subst ej
      exact ⟨(show gm_ir (M 206 5) from ⟨by omega, by omega⟩), s5.1, s5.2, fun _ h => nomatch h⟩
    · refine ⟨by show 206 ≤ 249; decide, fun j j1 j2 => ?_⟩
      have ej : j = 7 := Int.le_antisymm j2 j1
      subst ej
      exact ⟨(show gm_ir (M 206 7) from ⟨by omega, by omega⟩), (show -1 ≤ M 206 7 by omega), (show M 206 7 ≤ -1 by omega), fun _ h => nomatch h⟩
/-- a step, however a traveller stands -/
noncomputable def s32_206 (X : Int → Int) (LX : Nat) : Prop := ck_Ok qL_O X LX 32 q32_206 ∧ ck_Ok qL_O X LX 32 q32n_206 ∧ ck_Ok qL_O X LX 32 q32m_206
theorem q32_206_c (hS : s32_206 X LX) (hd : 13 ≤ d) (hF : gm_Fx qL_O 249 K R M) (h8 : R 3 8 = 246) (hs : SPc 206 i M) (hi : i ≤ 299) (q : ∀ K2 R2 M2, gm_Fx qL_O 249 K2 R2 M2 → ck_fr q32_206_W 249 K R M 249 K2 R2 M2 → SPc 206 (i + 1) M2 → Q (.inl none) 249 K2 R2 M2) : gm_Wp X LX d 0 0 32 0 (gm_ent 32 [gm_vr 206]) [] 249 K R M Q := by
  obtain ⟨hc, s5, s7⟩ := hs
  rcases hc with ⟨s2, r0, i0⟩ | ⟨s2, r0, i0⟩
  · exact q32a_206_c hS.1 hd hF h8 s2 ⟨r0, s5⟩ s7 ⟨i0, hi⟩ (fun K2 R2 M2 hF2 hf2 e2 e5 e7 => q K2 R2 M2 hF2 hf2 ⟨Or.inl ⟨by rw [e2]; exact s2, e5.1, by omega⟩, e5.2, e7⟩)
  · by_cases hm : i = -1
    · exact q32d_206_c hS.2.2 hd hF h8 ⟨by omega, by omega⟩ ⟨r0, s5⟩ s7 ⟨by omega, by omega⟩ (fun K2 R2 M2 hF2 hf2 e2 e5 e7 => q K2 R2 M2 hF2 hf2 ⟨Or.inr ⟨by rw [e2]; exact s2, e5.1, by omega⟩, e5.2, e7⟩)
    · exact q32b_206_c hS.2.1 hd hF h8 ⟨by omega, by omega⟩ ⟨r0, s5⟩ s7 ⟨by omega, hi⟩ (fun K2 R2 M2 hF2 hf2 e2 e5 e7 => q K2 R2 M2 hF2 hf2 ⟨Or.inr ⟨by rw [e2]; exact s2, e5.1, by omega⟩, e5.2, e7⟩)
noncomputable def q30_206 : ck_Sum := (((14 : Nat), (0 : Nat), (0 : Nat)), (249 : Nat), [.inr (.inr (.inl (206 : Nat))), .inl ((0 : Int), (299 : Int), [])], ([], [((3 : Nat), (8 : Int), (246 : Nat))], [((206 : Nat), (2 : Int), (2 : Int), ((0 : Int), (6 : Int), [])), ((206 : Nat), (5 : Int), (5 : Int), ((0 : Int), (300 : Int), [])), ((206 : Nat), (7 : Int), (7 : Int), ((0 : Int), (299 : Int), []))]), q32_206_W, [(.inr (some (.inl ((-1 : Int), (299 : Int), []))), (249 : Nat), ([], [], []))])
theorem fr0_206 {n2 : Nat} {K2 : gm_K} {R2 : gm_R} {M2 : gm_M} (h : ck_fr q32_206_W 249 K0 R0 M0 249 K R M) (h2 : ck_fr ([], []) 249 K R M n2 K2 R2 M2) : ck_fr q32_206_W 249 K0 R0 M0 n2 K2 R2 M2 := ⟨h2.1, fun k hk => (h2.2.1 k hk).trans (h.2.1 k hk), fun k j hk hw => (h2.2.2.1 k j hk (fun _ h => nomatch h)).trans (h.2.2.1 k j hk hw), fun k j hk hw => (h2.2.2.2 k j hk (fun h => nomatch h)).trans (h.2.2.2 k j hk hw)⟩
theorem fr1_206 {n2 : Nat} {K2 : gm_K} {R2 : gm_R} {M2 : gm_M} (h : ck_fr q32_206_W 249 K0 R0 M0 249 K R M) (h2 : ck_fr q32_206_W 249 K R M n2 K2 R2 M2) : ck_fr q32_206_W 249 K0 R0 M0 n2 K2 R2 M2 := ⟨h2.1, fun k hk => (h2.2.1 k hk).trans (h.2.1 k hk), fun k j hk hw => (h2.2.2.1 k j hk hw).trans (h.2.2.1 k j hk hw), fun k j hk hw => (h2.2.2.2 k j hk hw).trans (h.2.2.2 k j hk hw)⟩
theorem sp0_206 {n2 : Nat} {K2 : gm_K} {R2 : gm_R} {M2 : gm_M} (h2 : ck_fr ([], []) 249 K R M n2 K2 R2 M2) (hs : SPc 206 i M) : SPc 206 i M2 := by
  have e : ∀ j, M2 206 j = M 206 j := fun j => h2.2.2.1 206 j (by decide) (fun _ h => nomatch h)
  unfold SPc at hs ⊢
  rw [e, e, e]
  exact hs
/-- runOut's loop -/
theorem q30_206_l (hS : s32_206 X LX) (hd : 14 ≤ d) (hl : 0 ≤ last ∧ last ≤ 299) (h80 : R0 3 8 = 246) (hq : ∀ v K2 R2 M2, -1 ≤ v → v ≤ 299 → gm_Fx qL_O 249 K2 R2 M2 → ck_fr q32_206_W 249 K0 R0 M0 249 K2 R2 M2 → Q (.inl (some (gm_vi v))) 249 K2 R2 M2) : ∀ (u : Nat) (i : Int) (K : gm_K) (R : gm_R) (M : gm_M), i + (u : Int) = 300 → -1 ≤ i → SPc 206 i M → gm_Fx qL_O 249 K R M → ck_fr q32_206_W 249 K0 R0 M0 249 K R M → gm_Wp X LX d 0 0 30 5 [some (gm_vr 206), some (gm_vi last), some (gm_vi i)] [] 249 K R M Q := by
  intro u
  induction u with
  | zero =>
    intro i K R M hu hi hs hF hfr
    refine gm_sz (gm_p_load (pc := 5) (i := .iload_n 2) (sr := 0) (j := 2) (by decide +kernel) rfl rfl rfl) ?_
    refine gm_sz (gm_p_load (pc := 6) (i := .iload_n 1) (sr := 0) (j := 1) (by decide +kernel) rfl rfl rfl) ?_
    refine fw_ict (cc := .gt) (pc := 7) (off := 22) (by decide +kernel) (by decide) ⟨by omega, by omega⟩ ⟨by omega, by omega⟩ (show i > last by omega) ?_
    refine gm_sz (gm_p_const (pc := 29) (i := .iconst (-1)) (v := gm_vi (-1)) (by decide +kernel) (by decide +kernel)) ?_
    exact gm_r_int (pc := 30) (by decide +kernel) (Or.inl (by decide +kernel)) (hq (-1) _ _ _ (Int.le_refl _) (by decide) hF hfr)
  | succ u ih =>
    intro i K R M hu hi hs hF hfr
    have kc : (1 ≤ 206 ∧ 206 ≤ 249) ∧ (K 206).1 = 5 + 4 := ⟨⟨by decide, by decide⟩, by rw [(hF.1 206 (9, 0) rfl).2.2]⟩
    refine gm_sz (gm_p_load (pc := 5) (i := .iload_n 2) (sr := 0) (j := 2) (by decide +kernel) rfl rfl rfl) ?_
    refine gm_sz (gm_p_load (pc := 6) (i := .iload_n 1) (sr := 0) (j := 1) (by decide +kernel) rfl rfl rfl) ?_
    refine fw_ic (cc := .gt) (pc := 7) (off := 22) (by decide +kernel) (by decide) ⟨by omega, by omega⟩ ⟨by omega, by omega⟩ (fun hp => ?_) (fun hp => ?_)
    · refine gm_sz (gm_p_const (pc := 29) (i := .iconst (-1)) (v := gm_vi (-1)) (by decide +kernel) (by decide +kernel)) ?_
      exact gm_r_int (pc := 30) (by decide +kernel) (Or.inl (by decide +kernel)) (hq (-1) _ _ _ (Int.le_refl _) (by decide) hF hfr)
    · have hp : ¬ last < i := hp
      refine gm_sz (gm_p_load (pc := 10) (i := .aload_n 0) (sr := 2) (j := 0) (by decide +kernel) rfl rfl rfl) ?_
      refine gm_c_virt (k := 206) (ci := 5) (mj := 31) (ix := 68) (pc := 11) (as := []) (st := []) (d' := 0) (bc' := 0) (bs' := 0) (by decide +kernel) (by decide +kernel) (by decide +kernel) (by decide +kernel) kc.1 kc.2 (by decide) (by decide +kernel) (show 0 = gm_na 31 by decide +kernel) fw_c0 (show 0 + 1 ≤ gm_ml 31 by decide +kernel) (Nat.le_of_ble_eq_true rfl) (by omega) (Nat.zero_le _) (Nat.zero_le _) ?_
      refine q31_206_c hF (spc_b hs).1 (fun v K2 R2 M2 hv hF2 hf2 => ?_)
      show gm_Wp X LX d 0 0 30 14 [some (gm_vr 206), some (gm_vi last), some (gm_vi i)] [gm_vi v] 249 K2 R2 M2 Q
      have hfr2 := fr0_206 hfr hf2
      refine fw_if (cc := .eq) (pc := 14) (off := 5) (by decide +kernel) (by decide) (by rcases hv with rfl | rfl <;> exact ⟨by decide, by decide⟩) (fun hp2 => ?_) (fun hp2 => ?_)
      · refine gm_sz (gm_p_load (pc := 19) (i := .aload_n 0) (sr := 2) (j := 0) (by decide +kernel) rfl rfl rfl) ?_
        have kc2 : (1 ≤ 206 ∧ 206 ≤ 249) ∧ (K2 206).1 = 5 + 4 := ⟨⟨by decide, by decide⟩, by rw [(hF2.1 206 (9, 0) rfl).2.2]⟩
        refine gm_c_virt (k := 206) (ci := 5) (mj := 32) (ix := 112) (pc := 20) (as := []) (st := []) (d' := 13) (bc' := 0) (bs' := 0) (by decide +kernel) (by decide +kernel) (by decide +kernel) (by decide +kernel) kc2.1 kc2.2 (by decide) (by decide +kernel) (show 0 = gm_na 32 by decide +kernel) fw_c0 (show 0 + 1 ≤ gm_ml 32 by decide +kernel) (Nat.le_of_ble_eq_true rfl) (by omega) (Nat.zero_le _) (Nat.zero_le _) ?_
        have h82 : R2 3 8 = 246 := (hfr2.2.2.2 3 8 (by decide) (fun h => nomatch h)).trans h80
        refine q32_206_c hS (Nat.le_refl _) hF2 h82 (sp0_206 hf2 hs) (by omega) (fun K3 R3 M3 hF3 hf3 hs3 => ?_)
        show gm_Wp X LX d 0 0 30 23 [some (gm_vr 206), some (gm_vi last), some (gm_vi i)] [] 249 K3 R3 M3 Q
        refine gm_sz (gm_p_iinc (pc := 23) (j := 2) (z := 1) (by decide +kernel) rfl) ?_
        refine gm_sz (gm_p_goto (pc := 26) (off := (-21)) (by decide +kernel) (by decide)) ?_
        exact ih (i + 1) K3 R3 M3 (by omega) (by omega) hs3 hF3 (fr1_206 hfr2 hf3)
      · refine gm_sz (gm_p_load (pc := 17) (i := .iload_n 2) (sr := 0) (j := 2) (by decide +kernel) rfl rfl rfl) ?_
        exact gm_r_int (pc := 18) (by decide +kernel) (Or.inl (by decide +kernel)) (hq i _ _ _ (by omega) (by omega) hF2 hfr2)
theorem sp_f_206 {σ : Nat → Int} {n : Nat} (hf : ck_gf σ ([], [(3, 8, 246)], [(206, 2, 2, (0, 6, [])), (206, 5, 5, (0, 300, [])), (206, 7, 7, (0, 299, []))]) n K R M) : R 3 8 = 246 ∧ SPc 206 (M 206 7) M ∧ (0 ≤ M 206 7 ∧ M 206 7 ≤ 299) ∧ 0 ≤ M 206 2 := by
  have f2 := ((hf.2.2 (206, 2, 2, (0, 6, [])) List.mem_cons_self).2 2 (Int.le_refl _) (Int.le_refl _)).2
  have f5 := ((hf.2.2 (206, 5, 5, (0, 300, [])) (List.mem_cons_of_mem _ List.mem_cons_self)).2 5 (Int.le_refl _) (Int.le_refl _)).2
  have f7 := ((hf.2.2 (206, 7, 7, (0, 299, [])) (List.mem_cons_of_mem _ (List.mem_cons_of_mem _ List.mem_cons_self))).2 7 (Int.le_refl _) (Int.le_refl _)).2
  exact ⟨(hf.2.1 (3, 8, 246) List.mem_cons_self).2, ⟨Or.inl ⟨⟨f2.1, f2.2.1⟩, f5.1, f7.1⟩, f5.2.1, rfl⟩, ⟨f7.1, f7.2.1⟩, f2.1⟩
theorem sp_g_206 {σ : Nat → Int} {n : Nat} (hf : ck_gf σ ([], [(3, 8, 246)], [(206, 2, 2, ((-1), (-1), [])), (206, 5, 5, ((-1), 300, [])), (206, 7, 7, ((-1), 299, []))]) n K R M) : R 3 8 = 246 ∧ SPc 206 (M 206 7) M ∧ (-1 ≤ M 206 7 ∧ M 206 7 ≤ 299) ∧ M 206 2 = -1 := by
  have f2 := ((hf.2.2 (206, 2, 2, ((-1), (-1), [])) List.mem_cons_self).2 2 (Int.le_refl _) (Int.le_refl _)).2
  have f5 := ((hf.2.2 (206, 5, 5, ((-1), 300, [])) (List.mem_cons_of_mem _ List.mem_cons_self)).2 5 (Int.le_refl _) (Int.le_refl _)).2
  have f7 := ((hf.2.2 (206, 7, 7, ((-1), 299, [])) (List.mem_cons_of_mem _ (List.mem_cons_of_mem _ List.mem_cons_self))).2 7 (Int.le_refl _) (Int.le_refl _)).2
  exact ⟨(hf.2.1 (3, 8, 246) List.mem_cons_self).2, ⟨Or.inr ⟨Int.le_antisymm f2.2.1 f2.1, f5.1, f7.1⟩, f5.2.1, rfl⟩, ⟨f7.1, f7.2.1⟩, Int.le_antisymm f2.2.1 f2.1⟩
theorem q30_206_s (hS : s32_206 X LX) : ck_Ok qL_O X LX 30 q30_206 := by
  intro d σ vs n K R M hd hn hvs hσ hF hf
  obtain ⟨v0, w0, rfl, g0, v1, w1, rfl, ⟨l, rfl, hl, l0, l1, -⟩, g4⟩ := hvs
  have g4 : w1 = [] := g4
  subst g4
  have g0 : v0 = gm_vr 206 := g0
  subst g0
  have l0 : (0 : Int) ≤ l := l0
  have l1 : l ≤ (299 : Int) := l1
  have hn : n = 249 := hn
  subst hn
  obtain ⟨h8, hs, ⟨a0, a1⟩, a2⟩ := sp_f_206 hf
  refine gm_sz (gm_p_load (pc := 0) (i := .aload_n 0) (sr := 2) (j := 0) (by decide +kernel) rfl rfl rfl) ?_
  refine gm_sz (fw_gi (pc := 1) (ix := 28) (ci := 5) (j := 7) (x := M 206 7) (by decide +kernel) (e0k (e0F (pl_o (qL_p hF))) (k := 206) (c := 5) (by decide +kernel)) (by decide +kernel) (by decide +kernel) rfl) ?_
  refine gm_sz (gm_p_stor (pc := 4) (i := .istore_n 2) (sr := 0) (j := 2) (by decide +kernel) rfl (show 3 ≤ _ from Nat.le_of_ble_eq_true rfl) rfl) ?_
  exact q30_206_l hS hd ⟨l0, l1⟩ h8 (fun v K2 R2 M2 v0 v1 hF2 hfr2 => ⟨hF2, hfr2, _, List.mem_cons_self, ⟨v, rfl, ⟨by omega, by omega⟩, v0, v1, (fun _ h => nomatch h)⟩, rfl, (fun _ h => nomatch h), (fun _ h => nomatch h), (fun _ h => nomatch h)⟩) (300 - M 206 7).toNat (M 206 7) K R M (by omega) (by omega) hs hF ck_fr_0
noncomputable def q30n_206 : ck_Sum := (((14 : Nat), (0 : Nat), (0 : Nat)), (249 : Nat), [.inr (.inr (.inl (206 : Nat))), .inl ((0 : Int), (299 : Int), [])], ([], [((3 : Nat), (8 : Int), (246 : Nat))], [((206 : Nat), (2 : Int), (2 : Int), ((-1 : Int), (-1 : Int), [])), ((206 : Nat), (5 : Int), (5 : Int), ((-1 : Int), (300 : Int), [])), ((206 : Nat), (7 : Int), (7 : Int), ((-1 : Int), (299 : Int), []))]), q32_206_W, [(.inr (some (.inl ((-1 : Int), (299 : Int), []))), (249 : Nat), ([], [], []))])
theorem q30n_206_s (hS : s32_206 X LX) : ck_Ok qL_O X LX 30 q30n_206 := by
  intro d σ vs n K R M hd hn hvs hσ hF hf
  obtain ⟨v0, w0, rfl, g0, v1, w1, rfl, ⟨l, rfl, hl, l0, l1, -⟩, g4⟩ := hvs
  have g4 : w1 = [] := g4
  subst g4
  have g0 : v0 = gm_vr 206 := g0
  subst g0
  have l0 : (0 : Int) ≤ l := l0
  have l1 : l ≤ (299 : Int) := l1
  have hn : n = 249 := hn
  subst hn
  obtain ⟨h8, hs, ⟨a0, a1⟩, a2⟩ := sp_g_206 hf
  refine gm_sz (gm_p_load (pc := 0) (i := .aload_n 0) (sr := 2) (j := 0) (by decide +kernel) rfl rfl rfl) ?_
  refine gm_sz (fw_gi (pc := 1) (ix := 28) (ci := 5) (j := 7) (x := M 206 7) (by decide +kernel) (e0k (e0F (pl_o (qL_p hF))) (k := 206) (c := 5) (by decide +kernel)) (by decide +kernel) (by decide +kernel) rfl) ?_
  refine gm_sz (gm_p_stor (pc := 4) (i := .istore_n 2) (sr := 0) (j := 2) (by decide +kernel) rfl (show 3 ≤ _ from Nat.le_of_ble_eq_true rfl) rfl) ?_
  exact q30_206_l hS hd ⟨l0, l1⟩ h8 (fun v K2 R2 M2 v0 v1 hF2 hfr2 => ⟨hF2, hfr2, _, List.mem_cons_self, ⟨v, rfl, ⟨by omega, by omega⟩, v0, v1, (fun _ h => nomatch h)⟩, rfl, (fun _ h => nomatch h), (fun _ h => nomatch h), (fun _ h => nomatch h)⟩) (300 - M 206 7).toNat (M 206 7) K R M (by omega) (by omega) hs hF ck_fr_0
noncomputable def q148_206 : ck_Sum := (((14 : Nat), (0 : Nat), (0 : Nat)), (249 : Nat), [.inr (.inr (.inl (206 : Nat))), .inl ((0 : Int), (299 : Int), [])], ([], [((3 : Nat), (8 : Int), (246 : Nat))], [((206 : Nat), (2 : Int), (2 : Int), ((0 : Int), (6 : Int), [])), ((206 : Nat), (5 : Int), (5 : Int), ((0 : Int), (300 : Int), [])), ((206 : Nat), (7 : Int), (7 : Int), ((0 : Int), (299 : Int), []))]), q32_206_W, [(.inr none, (249 : Nat), ([], [], [((206 : Nat), (5 : Int), (5 : Int), ((0 : Int), (300 : Int), [])), ((206 : Nat), (7 : Int), (7 : Int), ((0 : Int), (299 : Int), []))]))])
theorem q148_206_l {mx : Int} (hS : s32_206 X LX) (hd : 14 ≤ d) (hl : 0 ≤ last ∧ last ≤ 299) (hmx : last ≤ mx) (h80 : R0 3 8 = 246) (hq : ∀ i K2 R2 M2, -1 ≤ i → i ≤ 299 → last ≤ i → i ≤ mx → SPc 206 i M2 → gm_Fx qL_O 249 K2 R2 M2 → ck_fr q32_206_W 249 K0 R0 M0 249 K2 R2 M2 → Q (.inl none) 249 K2 R2 M2) : ∀ (u : Nat) (i : Int) (K : gm_K) (R : gm_R) (M : gm_M), i + (u : Int) = 299 → -1 ≤ i → i ≤ mx → SPc 206 i M → gm_Fx qL_O 249 K R M → ck_fr q32_206_W 249 K0 R0 M0 249 K R M → gm_Wp X LX d 0 0 148 5 [some (gm_vr 206), some (gm_vi last), some (gm_vi i)] [] 249 K R M Q := by
  intro u
  induction u with
  | zero =>
    intro i K R M hu hi him hs hF hfr
    refine gm_sz (gm_p_load (pc := 5) (i := .iload_n 2) (sr := 0) (j := 2) (by decide +kernel) rfl rfl rfl) ?_
    refine gm_sz (gm_p_load (pc := 6) (i := .iload_n 1) (sr := 0) (j := 1) (by decide +kernel) rfl rfl rfl) ?_
    refine fw_ict (cc := .ge) (pc := 7) (off := 13) (by decide +kernel) (by decide) ⟨by omega, by omega⟩ ⟨by omega, by omega⟩ (show last ≤ i by omega) ?_
    exact gm_r_void (pc := 20) (by decide +kernel) (by decide +kernel) (hq i _ _ _ hi (by omega) (by omega) him hs hF hfr)
  | succ u ih =>
    intro i K R M hu hi him hs hF hfr
    refine gm_sz (gm_p_load (pc := 5) (i := .iload_n 2) (sr := 0) (j := 2) (by decide +kernel) rfl rfl rfl) ?_
    refine gm_sz (gm_p_load (pc := 6) (i := .iload_n 1) (sr := 0) (j := 1) (by decide +kernel) rfl rfl rfl) ?_
    refine fw_ic (cc := .ge) (pc := 7) (off := 13) (by decide +kernel) (by decide) ⟨by omega, by omega⟩ ⟨by omega, by omega⟩ (fun hp => ?_) (fun hp => ?_)
    · have hp : last ≤ i := hp
      exact gm_r_void (pc := 20) (by decide +kernel) (by decide +kernel) (hq i _ _ _ hi (by omega) hp him hs hF hfr)
    · have hp : ¬ last ≤ i := hp
      refine gm_sz (gm_p_load (pc := 10) (i := .aload_n 0) (sr := 2) (j := 0) (by decide +kernel) rfl rfl rfl) ?_
      have kc2 : (1 ≤ 206 ∧ 206 ≤ 249) ∧ (K 206).1 = 5 + 4 := ⟨⟨by decide, by decide⟩, by rw [(hF.1 206 (9, 0) rfl).2.2]⟩
      refine gm_c_virt (k := 206) (ci := 5) (mj := 32) (ix := 112) (pc := 11) (as := []) (st := []) (d' := 13) (bc' := 0) (bs' := 0) (by decide +kernel) (by decide +kernel) (by decide +kernel) (by decide +kernel) kc2.1 kc2.2 (by decide) (by decide +kernel) (show 0 = gm_na 32 by decide +kernel) fw_c0 (show 0 + 1 ≤ gm_ml 32 by decide +kernel) (Nat.le_of_ble_eq_true rfl) (by omega) (Nat.zero_le _) (Nat.zero_le _) ?_
      have h82 : R 3 8 = 246 := (hfr.2.2.2 3 8 (by decide) (fun h => nomatch h)).trans h80
      refine q32_206_c hS (Nat.le_refl _) hF h82 hs (by omega) (fun K3 R3 M3 hF3 hf3 hs3 => ?_)
      show gm_Wp X LX d 0 0 148 14 [some (gm_vr 206), some (gm_vi last), some (gm_vi i)] [] 249 K3 R3 M3 Q
      refine gm_sz (gm_p_iinc (pc := 14) (j := 2) (z := 1) (by decide +kernel) rfl) ?_
      refine gm_sz (gm_p_goto (pc := 17) (off := (-12)) (by decide +kernel) (by decide)) ?_
      exact ih (i + 1) K3 R3 M3 (by omega) (by omega) (by omega) hs3 hF3 (fr1_206 hfr hf3)
theorem q148_206_s (hS : s32_206 X LX) : ck_Ok qL_O X LX 148 q148_206 := by
  intro d σ vs n K R M hd hn hvs hσ hF hf
  obtain ⟨v0, w0, rfl, g0, v1, w1, rfl, ⟨l, rfl, hl, l0, l1, -⟩, g4⟩ := hvs
  have g4 : w1 = [] := g4
  subst g4
  have g0 : v0 = gm_vr 206 := g0
  subst g0
  have l0 : (0 : Int) ≤ l := l0
  have l1 : l ≤ (299 : Int) := l1
  have hn : n = 249 := hn
  subst hn
  obtain ⟨h8, hs, ⟨a0, a1⟩, a2⟩ := sp_f_206 hf
  refine gm_sz (gm_p_load (pc := 0) (i := .aload_n 0) (sr := 2) (j := 0) (by decide +kernel) rfl rfl rfl) ?_
  refine gm_sz (fw_gi (pc := 1) (ix := 28) (ci := 5) (j := 7) (x := M 206 7) (by decide +kernel) (e0k (e0F (pl_o (qL_p hF))) (k := 206) (c := 5) (by decide +kernel)) (by decide +kernel) (by decide +kernel) rfl) ?_
  refine gm_sz (gm_p_stor (pc := 4) (i := .istore_n 2) (sr := 0) (j := 2) (by decide +kernel) rfl (show 3 ≤ _ from Nat.le_of_ble_eq_true rfl) rfl) ?_
  refine q148_206_l (mx := 299) hS hd ⟨l0, l1⟩ l1 h8 (fun i K2 R2 M2 i0 i1 _ _ hs2 hF2 hfr2 => ⟨hF2, hfr2, _, List.mem_cons_self, trivial, rfl, (fun _ h => nomatch h), (fun _ h => nomatch h), fun q hq => ?_⟩) (299 - M 206 7).toNat (M 206 7) K R M (by omega) (by omega) (by omega) hs hF ck_fr_0
  have e2 : M2 206 2 = M 206 2 := hfr2.2.2.1 206 2 (by decide) (fun w hw hh => absurd hh (of_decide_eq_true (List.all_eq_true.mp (show q32_206_W.1.all (fun w => decide (¬ (w.1 = 206 ∧ w.2.1 ≤ 2 ∧ 2 ≤ w.2.2))) = true by decide) w hw)))
  have b5 : 0 ≤ M2 206 5 ∧ M2 206 5 ≤ 300 := by
    have z2 := hs.1
    have z3 := hs2
    unfold SPc at z3
    omega
  have b7 : M2 206 7 = i ∧ 0 ≤ i := by
    have z2 := hs.1
    have z3 := hs2
    unfold SPc at z3
    omega
  simp only [List.mem_cons, List.not_mem_nil, or_false] at hq
  rcases hq with rfl | rfl
  · refine ⟨by show 206 ≤ 249; decide, fun j j1 j2 => ?_⟩
    have ej : j = 5 := Int.le_antisymm j2 j1
    subst ej
    exact ⟨(show gm_ir (M2 206 5) from ⟨by omega, by omega⟩), b5.1, b5.2, fun _ h => nomatch h⟩
  · refine ⟨by show 206 ≤ 249; decide, fun j j1 j2 => ?_⟩
    have ej : j = 7 := Int.le_antisymm j2 j1
    subst ej
    exact ⟨(show gm_ir (M2 206 7) from ⟨by omega, by omega⟩), (show 0 ≤ M2 206 7 by omega), (show M2 206 7 ≤ 299 by omega), fun _ h => nomatch h⟩
noncomputable def q148n_206 : ck_Sum := (((14 : Nat), (0 : Nat), (0 : Nat)), (249 : Nat), [.inr (.inr (.inl (206 : Nat))), .inl ((0 : Int), (299 : Int), [])], ([], [((3 : Nat), (8 : Int), (246 : Nat))], [((206 : Nat), (2 : Int), (2 : Int), ((-1 : Int), (-1 : Int), [])), ((206 : Nat), (5 : Int), (5 : Int), ((-1 : Int), (300 : Int), [])), ((206 : Nat), (7 : Int), (7 : Int), ((-1 : Int), (299 : Int), []))]), q32_206_W, [(.inr none, (249 : Nat), ([], [], [((206 : Nat), (5 : Int), (5 : Int), ((-1 : Int), (300 : Int), [])), ((206 : Nat), (7 : Int), (7 : Int), ((-1 : Int), (299 : Int), []))]))])
theorem q148n_206_s (hS : s32_206 X LX) : ck_Ok qL_O X LX 148 q148n_206 := by
  intro d σ vs n K R M hd hn hvs hσ hF hf
  obtain ⟨v0, w0, rfl, g0, v1, w1, rfl, ⟨l, rfl, hl, l0, l1, -⟩, g4⟩ := hvs
  have g4 : w1 = [] := g4
  subst g4
  have g0 : v0 = gm_vr 206 := g0
  subst g0
  have l0 : (0 : Int) ≤ l := l0
  have l1 : l ≤ (299 : Int) := l1
  have hn : n = 249 := hn
  subst hn
  obtain ⟨h8, hs, ⟨a0, a1⟩, a2⟩ := sp_g_206 hf
  refine gm_sz (gm_p_load (pc := 0) (i := .aload_n 0) (sr := 2) (j := 0) (by decide +kernel) rfl rfl rfl) ?_
  refine gm_sz (fw_gi (pc := 1) (ix := 28) (ci := 5) (j := 7) (x := M 206 7) (by decide +kernel) (e0k (e0F (pl_o (qL_p hF))) (k := 206) (c := 5) (by decide +kernel)) (by decide +kernel) (by decide +kernel) rfl) ?_
  refine gm_sz (gm_p_stor (pc := 4) (i := .istore_n 2) (sr := 0) (j := 2) (by decide +kernel) rfl (show 3 ≤ _ from Nat.le_of_ble_eq_true rfl) rfl) ?_
  refine q148_206_l (mx := 299) hS hd ⟨l0, l1⟩ l1 h8 (fun i K2 R2 M2 i0 i1 _ _ hs2 hF2 hfr2 => ⟨hF2, hfr2, _, List.mem_cons_self, trivial, rfl, (fun _ h => nomatch h), (fun _ h => nomatch h), fun q hq => ?_⟩) (299 - M 206 7).toNat (M 206 7) K R M (by omega) (by omega) (by omega) hs hF ck_fr_0
  have e2 : M2 206 2 = M 206 2 := hfr2.2.2.1 206 2 (by decide) (fun w hw hh => absurd hh (of_decide_eq_true (List.all_eq_true.mp (show q32_206_W.1.all (fun w => decide (¬ (w.1 = 206 ∧ w.2.1 ≤ 2 ∧ 2 ≤ w.2.2))) = true by decide) w hw)))
  have b5 : -1 ≤ M2 206 5 ∧ M2 206 5 ≤ 300 := by
    have z2 := hs.1
    have z3 := hs2
    unfold SPc at z3
    omega
  have b7 : M2 206 7 = i ∧ -1 ≤ i := by
    have z2 := hs.1
    have z3 := hs2
    unfold SPc at z3
    omega
  simp only [List.mem_cons, List.not_mem_nil, or_false] at hq
  rcases hq with rfl | rfl
  · refine ⟨by show 206 ≤ 249; decide, fun j j1 j2 => ?_⟩
    have ej : j = 5 := Int.le_antisymm j2 j1
    subst ej
    exact ⟨(show gm_ir (M2 206 5) from ⟨by omega, by omega⟩), b5.1, b5.2, fun _ h => nomatch h⟩
  · refine ⟨by show 206 ≤ 249; decide, fun j j1 j2 => ?_⟩
    have ej : j = 7 := Int.le_antisymm j2 j1
    subst ej
    exact ⟨(show gm_ir (M2 206 7) from ⟨by omega, by omega⟩), (show -1 ≤ M2 206 7 by omega), (show M2 206 7 ≤ 299 by omega), fun _ h => nomatch h⟩
noncomputable def q32_207_W : List (Nat × Int × Int) × List (Nat × Int) := ([((200 : Nat), (6 : Int), (6 : Int)), ((204 : Nat), (0 : Int), (9 : Int)), ((205 : Nat), (0 : Int), (14849 : Int)), ((207 : Nat), (5 : Int), (8 : Int))], [])
theorem q32a_207_c (hS : ck_Ok qL_O X LX 32 q32_207) (hd : 13 ≤ d) (hF : gm_Fx qL_O 249 K R M) (h8 : R 3 8 = 246) (s2 : 0 ≤ M 207 2 ∧ M 207 2 ≤ 6) (s5 : 0 ≤ M 207 5 ∧ M 207 5 ≤ 300) (s7 : M 207 7 = i) (hi : 0 ≤ i ∧ i ≤ 299) (q : ∀ K2 R2 M2, gm_Fx qL_O 249 K2 R2 M2 → ck_fr q32_207_W 249 K R M 249 K2 R2 M2 → M2 207 2 = M 207 2 → (0 ≤ M2 207 5 ∧ M2 207 5 ≤ 300) → M2 207 7 = i + 1 → Q (.inl none) 249 K2 R2 M2) : gm_Wp X LX d 0 0 32 0 (gm_ent 32 [gm_vr 207]) [] 249 K R M Q := by
  have hσ := ck_sn_s (σ := fun _ => 0) (M := M) qL_nmu
  have hnm : ck_sn qL_O (fun _ => 0) M 29 = M 207 7 := hσ (29, 207, 7) (by decide)
  refine gm_Wp_mono (fun o n' K' R' M' hq => ?_) (hS d (ck_sn qL_O (fun _ => 0) M) [gm_vr 207] 249 K R M hd rfl ⟨_, _, rfl, rfl, rfl⟩ hσ hF ⟨(fun _ h => nomatch h), fun q hq => ?_, fun q hq => ?_⟩)
  · obtain ⟨hF2, hfr, oc, hoc, ho, hn, hf⟩ := hq
    have hoc := List.mem_singleton.mp hoc
    subst hoc
    have hn : n' = 249 := hn
    subst hn
    rcases o with (_ | v) | x
    · have f5 := ((hf.2.2 (207, 5, 5, (0, 300, [])) List.mem_cons_self).2 5 (Int.le_refl _) (Int.le_refl _)).2
      have f7 := ((hf.2.2 (207, 7, 7, (1, 300, [(29, 1)])) (List.mem_cons_of_mem _ List.mem_cons_self)).2 7 (Int.le_refl _) (Int.le_refl _)).2.2.2
      have e7 : M' 207 7 = ck_sn qL_O (fun _ => 0) M 29 + 1 := (f7 (29, 1) List.mem_cons_self).1 (by decide)
      have e2 : M' 207 2 = M 207 2 := hfr.2.2.1 207 2 (by decide) (fun w hw hh => absurd hh (of_decide_eq_true (List.all_eq_true.mp (show q32_207_W.1.all (fun w => decide (¬ (w.1 = 207 ∧ w.2.1 ≤ 2 ∧ 2 ≤ w.2.2))) = true by decide) w hw)))
      exact q _ _ _ hF2 hfr e2 ⟨f5.1, f5.2.1⟩ (by rw [e7, hnm, s7])
    · exact absurd ho id
    · exact absurd ho id
  · rw [List.mem_singleton.mp hq]
    exact ⟨by show 3 ≤ 249; decide, h8⟩
  · simp only [List.mem_cons, List.not_mem_nil, or_false, q32_207] at hq
    rcases hq with rfl | rfl | rfl
    · refine ⟨by show 207 ≤ 249; decide, fun j j1 j2 => ?_⟩
      have ej : j = 2 := Int.le_antisymm j2 j1
      subst ej
      exact ⟨(show gm_ir (M 207 2) from ⟨by omega, by omega⟩), s2.1, s2.2, fun _ h => nomatch h⟩
    · refine ⟨by show 207 ≤ 249; decide, fun j j1 j2 => ?_⟩
      have ej : j = 5 := Int.le_antisymm j2 j1
      subst ej
      exact ⟨(show gm_ir (M 207 5) from ⟨by omega, by omega⟩), s5.1, s5.2, fun _ h => nomatch h⟩
    · refine ⟨by show 207 ≤ 249; decide, fun j j1 j2 => ?_⟩
      have ej : j = 7 := Int.le_antisymm j2 j1
      subst ej
      exact ⟨(show gm_ir (M 207 7) from ⟨by omega, by omega⟩), (show 0 ≤ M 207 7 by omega), (show M 207 7 ≤ 299 by omega), ck_gt1 (s := 29) (z := 0) (by decide) (by rw [hnm, Int.add_zero])⟩
theorem q32b_207_c (hS : ck_Ok qL_O X LX 32 q32n_207) (hd : 13 ≤ d) (hF : gm_Fx qL_O 249 K R M) (h8 : R 3 8 = 246) (s2 : -1 ≤ M 207 2 ∧ M 207 2 ≤ -1) (s5 : -1 ≤ M 207 5 ∧ M 207 5 ≤ 300) (s7 : M 207 7 = i) (hi : 0 ≤ i ∧ i ≤ 299) (q : ∀ K2 R2 M2, gm_Fx qL_O 249 K2 R2 M2 → ck_fr q32_207_W 249 K R M 249 K2 R2 M2 → M2 207 2 = M 207 2 → (-1 ≤ M2 207 5 ∧ M2 207 5 ≤ 300) → M2 207 7 = i + 1 → Q (.inl none) 249 K2 R2 M2) : gm_Wp X LX d 0 0 32 0 (gm_ent 32 [gm_vr 207]) [] 249 K R M Q := by
  have hσ := ck_sn_s (σ := fun _ => 0) (M := M) qL_nmu
  have hnm : ck_sn qL_O (fun _ => 0) M 29 = M 207 7 := hσ (29, 207, 7) (by decide)
  refine gm_Wp_mono (fun o n' K' R' M' hq => ?_) (hS d (ck_sn qL_O (fun _ => 0) M) [gm_vr 207] 249 K R M hd rfl ⟨_, _, rfl, rfl, rfl⟩ hσ hF ⟨(fun _ h => nomatch h), fun q hq => ?_, fun q hq => ?_⟩)
  · obtain ⟨hF2, hfr, oc, hoc, ho, hn, hf⟩ := hq
    have hoc := List.mem_singleton.mp hoc
    subst hoc
    have hn : n' = 249 := hn
    subst hn
    rcases o with (_ | v) | x
    · have f5 := ((hf.2.2 (207, 5, 5, ((-1), 300, [])) List.mem_cons_self).2 5 (Int.le_refl _) (Int.le_refl _)).2
      have f7 := ((hf.2.2 (207, 7, 7, (1, 300, [(29, 1)])) (List.mem_cons_of_mem _ List.mem_cons_self)).2 7 (Int.le_refl _) (Int.le_refl _)).2.2.2
      have e7 : M' 207 7 = ck_sn qL_O (fun _ => 0) M 29 + 1 := (f7 (29, 1) List.mem_cons_self).1 (by decide)
      have e2 : M' 207 2 = M 207 2 := hfr.2.2.1 207 2 (by decide) (fun w hw hh => absurd hh (of_decide_eq_true (List.all_eq_true.mp (show q32_207_W.1.all (fun w => decide (¬ (w.1 = 207 ∧ w.2.1 ≤ 2 ∧ 2 ≤ w.2.2))) = true by decide) w hw)))
      exact q _ _ _ hF2 hfr e2 ⟨f5.1, f5.2.1⟩ (by rw [e7, hnm, s7])
    · exact absurd ho id
    · exact absurd ho id
  · rw [List.mem_singleton.mp hq]
    exact ⟨by show 3 ≤ 249; decide, h8⟩
  · simp only [List.mem_cons, List.not_mem_nil, or_false, q32n_207] at hq
    rcases hq with rfl | rfl | rfl
    · refine ⟨by show 207 ≤ 249; decide, fun j j1 j2 => ?_⟩
      have ej : j = 2 := Int.le_antisymm j2 j1
      subst ej
      exact ⟨(show gm_ir (M 207 2) from ⟨by omega, by omega⟩), s2.1, s2.2, fun _ h => nomatch h⟩
    · refine ⟨by show 207 ≤ 249; decide, fun j j1 j2 => ?_⟩
      have ej : j = 5 := Int.le_antisymm j2 j1
      subst ej
      exact ⟨(show gm_ir (M 207 5) from ⟨by omega, by omega⟩), s5.1, s5.2, fun _ h => nomatch h⟩
    · refine ⟨by show 207 ≤ 249; decide, fun j j1 j2 => ?_⟩
      have ej : j = 7 := Int.le_antisymm j2 j1
      subst ej
      exact ⟨(show gm_ir (M 207 7) from ⟨by omega, by omega⟩), (show 0 ≤ M 207 7 by omega), (show M 207 7 ≤ 299 by omega), ck_gt1 (s := 29) (z := 0) (by decide) (by rw [hnm, Int.add_zero])⟩
theorem q32d_207_c (hS : ck_Ok qL_O X LX 32 q32m_207) (hd : 13 ≤ d) (hF : gm_Fx qL_O 249 K R M) (h8 : R 3 8 = 246) (s2 : -1 ≤ M 207 2 ∧ M 207 2 ≤ -1) (s5 : -1 ≤ M 207 5 ∧ M 207 5 ≤ 300) (s7 : M 207 7 = i) (hi : -1 ≤ i ∧ i ≤ -1) (q : ∀ K2 R2 M2, gm_Fx qL_O 249 K2 R2 M2 → ck_fr q32_207_W 249 K R M 249 K2 R2 M2 → M2 207 2 = M 207 2 → (-1 ≤ M2 207 5 ∧ M2 207 5 ≤ 300) → M2 207 7 = i + 1 → Q (.inl none) 249 K2 R2 M2) : gm_Wp X LX d 0 0 32 0 (gm_ent 32 [gm_vr 207]) [] 249 K R M Q := by
  have hσ := ck_sn_s (σ := fun _ => 0) (M := M) qL_nmu
  refine gm_Wp_mono (fun o n' K' R' M' hq => ?_) (hS d (ck_sn qL_O (fun _ => 0) M) [gm_vr 207] 249 K R M hd rfl ⟨_, _, rfl, rfl, rfl⟩ hσ hF ⟨(fun _ h => nomatch h), fun q hq => ?_, fun q hq => ?_⟩)
  · obtain ⟨hF2, hfr, oc, hoc, ho, hn, hf⟩ := hq
    have hoc := List.mem_singleton.mp hoc
    subst hoc
    have hn : n' = 249 := hn
    subst hn
    rcases o with (_ | v) | x
    · have f5 := ((hf.2.2 (207, 5, 5, ((-1), 300, [])) List.mem_cons_self).2 5 (Int.le_refl _) (Int.le_refl _)).2
      have f7 := ((hf.2.2 (207, 7, 7, (0, 0, [])) (List.mem_cons_of_mem _ List.mem_cons_self)).2 7 (Int.le_refl _) (Int.le_refl _)).2
      have e7 : M' 207 7 = 0 := Int.le_antisymm f7.2.1 f7.1
      have e2 : M' 207 2 = M 207 2 := hfr.2.2.1 207 2 (by decide) (fun w hw hh => absurd hh (of_decide_eq_true (List.all_eq_true.mp (show q32_207_W.1.all (fun w => decide (¬ (w.1 = 207 ∧ w.2.1 ≤ 2 ∧ 2 ≤ w.2.2))) = true by decide) w hw)))
      exact q _ _ _ hF2 hfr e2 ⟨f5.1, f5.2.1⟩ (by rw [e7]; omega)
    · exact absurd ho id
    · exact absurd ho id
  · rw [List.mem_singleton.mp hq]
    exact ⟨by show 3 ≤ 249; decide, h8⟩
  · simp only [List.mem_cons, List.not_mem_nil, or_false, q32m_207] at hq
    rcases hq with rfl | rfl | rfl
    · refine ⟨by show 207 ≤ 249; decide, fun j j1 j2 => ?_⟩
      have ej : j = 2 := Int.le_antisymm j2 j1
      subst ej
      exact ⟨(show gm_ir (M 207 2) from ⟨by omega, by omega⟩), s2.1, s2.2, fun _ h => nomatch h⟩
    · refine ⟨by show 207 ≤ 249; decide, fun j j1 j2 => ?_⟩
      have ej : j = 5 := Int.le_antisymm j2 j1
      subst ej
      exact ⟨(show gm_ir (M 207 5) from ⟨by omega, by omega⟩), s5.1, s5.2, fun _ h => nomatch h⟩
    · refine ⟨by show 207 ≤ 249; decide, fun j j1 j2 => ?_⟩
      have ej : j = 7 := Int.le_antisymm j2 j1
      subst ej
      exact ⟨(show gm_ir (M 207 7) from ⟨by omega, by omega⟩), (show -1 ≤ M 207 7 by omega), (show M 207 7 ≤ -1 by omega), fun _ h => nomatch h⟩
/-- a step, however a traveller stands -/
noncomputable def s32_207 (X : Int → Int) (LX : Nat) : Prop := ck_Ok qL_O X LX 32 q32_207 ∧ ck_Ok qL_O X LX 32 q32n_207 ∧ ck_Ok qL_O X LX 32 q32m_207
theorem q32_207_c (hS : s32_207 X LX) (hd : 13 ≤ d) (hF : gm_Fx qL_O 249 K R M) (h8 : R 3 8 = 246) (hs : SPc 207 i M) (hi : i ≤ 299) (q : ∀ K2 R2 M2, gm_Fx qL_O 249 K2 R2 M2 → ck_fr q32_207_W 249 K R M 249 K2 R2 M2 → SPc 207 (i + 1) M2 → Q (.inl none) 249 K2 R2 M2) : gm_Wp X LX d 0 0 32 0 (gm_ent 32 [gm_vr 207]) [] 249 K R M Q := by
  obtain ⟨hc, s5, s7⟩ := hs
  rcases hc with ⟨s2, r0, i0⟩ | ⟨s2, r0, i0⟩
  · exact q32a_207_c hS.1 hd hF h8 s2 ⟨r0, s5⟩ s7 ⟨i0, hi⟩ (fun K2 R2 M2 hF2 hf2 e2 e5 e7 => q K2 R2 M2 hF2 hf2 ⟨Or.inl ⟨by rw [e2]; exact s2, e5.1, by omega⟩, e5.2, e7⟩)
  · by_cases hm : i = -1
    · exact q32d_207_c hS.2.2 hd hF h8 ⟨by omega, by omega⟩ ⟨r0, s5⟩ s7 ⟨by omega, by omega⟩ (fun K2 R2 M2 hF2 hf2 e2 e5 e7 => q K2 R2 M2 hF2 hf2 ⟨Or.inr ⟨by rw [e2]; exact s2, e5.1, by omega⟩, e5.2, e7⟩)
    · exact q32b_207_c hS.2.1 hd hF h8 ⟨by omega, by omega⟩ ⟨r0, s5⟩ s7 ⟨by omega, hi⟩ (fun K2 R2 M2 hF2 hf2 e2 e5 e7 => q K2 R2 M2 hF2 hf2 ⟨Or.inr ⟨by rw [e2]; exact s2, e5.1, by omega⟩, e5.2, e7⟩)
theorem fr1_207 {n2 : Nat} {K2 : gm_K} {R2 : gm_R} {M2 : gm_M} (h : ck_fr q32_207_W 249 K0 R0 M0 249 K R M) (h2 : ck_fr q32_207_W 249 K R M n2 K2 R2 M2) : ck_fr q32_207_W 249 K0 R0 M0 n2 K2 R2 M2 := ⟨h2.1, fun k hk => (h2.2.1 k hk).trans (h.2.1 k hk), fun k j hk hw => (h2.2.2.1 k j hk hw).trans (h.2.2.1 k j hk hw), fun k j hk hw => (h2.2.2.2 k j hk hw).trans (h.2.2.2 k j hk hw)⟩
theorem q148_207_l {mx : Int} (hS : s32_207 X LX) (hd : 14 ≤ d) (hl : 0 ≤ last ∧ last ≤ 299) (hmx : last ≤ mx) (h80 : R0 3 8 = 246) (hq : ∀ i K2 R2 M2, -1 ≤ i → i ≤ 299 → last ≤ i → i ≤ mx → SPc 207 i M2 → gm_Fx qL_O 249 K2 R2 M2 → ck_fr q32_207_W 249 K0 R0 M0 249 K2 R2 M2 → Q (.inl none) 249 K2 R2 M2) : ∀ (u : Nat) (i : Int) (K : gm_K) (R : gm_R) (M : gm_M), i + (u : Int) = 299 → -1 ≤ i → i ≤ mx → SPc 207 i M → gm_Fx qL_O 249 K R M → ck_fr q32_207_W 249 K0 R0 M0 249 K R M → gm_Wp X LX d 0 0 148 5 [some (gm_vr 207), some (gm_vi last), some (gm_vi i)] [] 249 K R M Q := by
  intro u
  induction u with
  | zero =>
    intro i K R M hu hi him hs hF hfr
    refine gm_sz (gm_p_load (pc := 5) (i := .iload_n 2) (sr := 0) (j := 2) (by decide +kernel) rfl rfl rfl) ?_
    refine gm_sz (gm_p_load (pc := 6) (i := .iload_n 1) (sr := 0) (j := 1) (by decide +kernel) rfl rfl rfl) ?_
    refine fw_ict (cc := .ge) (pc := 7) (off := 13) (by decide +kernel) (by decide) ⟨by omega, by omega⟩ ⟨by omega, by omega⟩ (show last ≤ i by omega) ?_
    exact gm_r_void (pc := 20) (by decide +kernel) (by decide +kernel) (hq i _ _ _ hi (by omega) (by omega) him hs hF hfr)
  | succ u ih =>
    intro i K R M hu hi him hs hF hfr
    refine gm_sz (gm_p_load (pc := 5) (i := .iload_n 2) (sr := 0) (j := 2) (by decide +kernel) rfl rfl rfl) ?_
    refine gm_sz (gm_p_load (pc := 6) (i := .iload_n 1) (sr := 0) (j := 1) (by decide +kernel) rfl rfl rfl) ?_
    refine fw_ic (cc := .ge) (pc := 7) (off := 13) (by decide +kernel) (by decide) ⟨by omega, by omega⟩ ⟨by omega, by omega⟩ (fun hp => ?_) (fun hp => ?_)
    · have hp : last ≤ i := hp
      exact gm_r_void (pc := 20) (by decide +kernel) (by decide +kernel) (hq i _ _ _ hi (by omega) hp him hs hF hfr)
    · have hp : ¬ last ≤ i := hp
      refine gm_sz (gm_p_load (pc := 10) (i := .aload_n 0) (sr := 2) (j := 0) (by decide +kernel) rfl rfl rfl) ?_
      have kc2 : (1 ≤ 207 ∧ 207 ≤ 249) ∧ (K 207).1 = 5 + 4 := ⟨⟨by decide, by decide⟩, by rw [(hF.1 207 (9, 0) rfl).2.2]⟩
      refine gm_c_virt (k := 207) (ci := 5) (mj := 32) (ix := 112) (pc := 11) (as := []) (st := []) (d' := 13) (bc' := 0) (bs' := 0) (by decide +kernel) (by decide +kernel) (by decide +kernel) (by decide +kernel) kc2.1 kc2.2 (by decide) (by decide +kernel) (show 0 = gm_na 32 by decide +kernel) fw_c0 (show 0 + 1 ≤ gm_ml 32 by decide +kernel) (Nat.le_of_ble_eq_true rfl) (by omega) (Nat.zero_le _) (Nat.zero_le _) ?_
      have h82 : R 3 8 = 246 := (hfr.2.2.2 3 8 (by decide) (fun h => nomatch h)).trans h80
      refine q32_207_c hS (Nat.le_refl _) hF h82 hs (by omega) (fun K3 R3 M3 hF3 hf3 hs3 => ?_)
      show gm_Wp X LX d 0 0 148 14 [some (gm_vr 207), some (gm_vi last), some (gm_vi i)] [] 249 K3 R3 M3 Q
      refine gm_sz (gm_p_iinc (pc := 14) (j := 2) (z := 1) (by decide +kernel) rfl) ?_
      refine gm_sz (gm_p_goto (pc := 17) (off := (-12)) (by decide +kernel) (by decide)) ?_
      exact ih (i + 1) K3 R3 M3 (by omega) (by omega) (by omega) hs3 hF3 (fr1_207 hfr hf3)
theorem q148_206_c (hS : s32_206 X LX) (hd : 14 ≤ d) (hF : gm_Fx qL_O 249 K R M) (h8 : R 3 8 = 246) (hs : SPc 206 i M) (hl : 0 ≤ last ∧ last ≤ 299) (hi : i ≤ last) (q : ∀ K2 R2 M2, gm_Fx qL_O 249 K2 R2 M2 → ck_fr q32_206_W 249 K R M 249 K2 R2 M2 → SPc 206 last M2 → Q (.inl none) 249 K2 R2 M2) : gm_Wp X LX d 0 0 148 0 (gm_ent 148 [gm_vr 206, gm_vi last]) [] 249 K R M Q := by
  have hb := spc_b hs
  have h7 : M 206 7 = i := hs.2.2
  refine gm_sz (gm_p_load (pc := 0) (i := .aload_n 0) (sr := 2) (j := 0) (by decide +kernel) rfl rfl rfl) ?_
  refine gm_sz (fw_gi (pc := 1) (ix := 28) (ci := 5) (j := 7) (x := i) (by decide +kernel) (e0k (e0F (pl_o (qL_p hF))) (k := 206) (c := 5) (by decide +kernel)) (by decide +kernel) (by decide +kernel) h7) ?_
  refine gm_sz (gm_p_stor (pc := 4) (i := .istore_n 2) (sr := 0) (j := 2) (by decide +kernel) rfl (show 3 ≤ _ from Nat.le_of_ble_eq_true rfl) rfl) ?_
  exact q148_206_l (mx := last) hS hd hl (Int.le_refl _) h8 (fun i2 K2 R2 M2 _ _ a b hs2 hF2 hfr2 => q K2 R2 M2 hF2 hfr2 (by rw [show i2 = last by omega] at hs2; exact hs2)) (299 - i).toNat i K R M (by omega) hb.2 hi hs hF ck_fr_0
theorem q148_207_c (hS : s32_207 X LX) (hd : 14 ≤ d) (hF : gm_Fx qL_O 249 K R M) (h8 : R 3 8 = 246) (hs : SPc 207 i M) (hl : 0 ≤ last ∧ last ≤ 299) (hi : i ≤ last) (q : ∀ K2 R2 M2, gm_Fx qL_O 249 K2 R2 M2 → ck_fr q32_207_W 249 K R M 249 K2 R2 M2 → SPc 207 last M2 → Q (.inl none) 249 K2 R2 M2) : gm_Wp X LX d 0 0 148 0 (gm_ent 148 [gm_vr 207, gm_vi last]) [] 249 K R M Q := by
  have hb := spc_b hs
  have h7 : M 207 7 = i := hs.2.2
  refine gm_sz (gm_p_load (pc := 0) (i := .aload_n 0) (sr := 2) (j := 0) (by decide +kernel) rfl rfl rfl) ?_
  refine gm_sz (fw_gi (pc := 1) (ix := 28) (ci := 5) (j := 7) (x := i) (by decide +kernel) (e0k (e0F (pl_o (qL_p hF))) (k := 207) (c := 5) (by decide +kernel)) (by decide +kernel) (by decide +kernel) h7) ?_
  refine gm_sz (gm_p_stor (pc := 4) (i := .istore_n 2) (sr := 0) (j := 2) (by decide +kernel) rfl (show 3 ≤ _ from Nat.le_of_ble_eq_true rfl) rfl) ?_
  exact q148_207_l (mx := last) hS hd hl (Int.le_refl _) h8 (fun i2 K2 R2 M2 _ _ a b hs2 hF2 hfr2 => q K2 R2 M2 hF2 hfr2 (by rw [show i2 = last by omega] at hs2; exact hs2)) (299 - i).toNat i K R M (by omega) hb.2 hi hs hF ck_fr_0
end RU27
end
/-! 7c28.sl -/
section
/-! WHERE A TRAVELLER STARTS: a letter's place, a person's; or -1 thrice, where there is none. -/
section SL28
variable {X : Int → Int} {LX d bc bs n : Nat} {K : gm_K} {R : gm_R} {M : gm_M} {Q : gm_Q} {lane row year speed l p y x z : Int} {N h : Int → Int} {sp : Int → Int → Int}
theorem ln_rock (hd : 1 ≤ d) (hE : E0 n K R) (hT : TI N h sp M) (hN : NR N) (h1 : N 4 ≤ l ∧ l < 100) (q0 : Q (.inl (some (gm_vi 1))) n K R (M)) : gm_Wp X LX d bc bs 28 0 (gm_ent 28 [gm_vr 3, gm_vi l]) [] n K R M Q := by
  obtain ⟨⟨⟨a0, b0⟩, ⟨a1, b1⟩, ⟨a10, b10⟩, ⟨a11, b11⟩, ⟨a12, b12⟩, a9, b9⟩, ⟨⟨a2, b2⟩, ⟨a5, b5⟩, ⟨a3, b3⟩, ⟨a4, b4⟩, ⟨a6, b6⟩, ⟨a14, b14⟩, ⟨a7, b7⟩, a13, b13⟩, rF, rP, rL⟩ := id hN
  refine gm_sz (gm_p_load (pc := 0) (i := .aload_n 0) (sr := 2) (j := 0) (by decide +kernel) rfl rfl rfl) ?_
  refine gm_sz (fw_gr (pc := 1) (ix := 55) (ci := 1) (j := 12) (r := 10) (by decide +kernel) (e0k hE (k := 3) (c := 1) (by decide +kernel)) (by decide +kernel) (by decide +kernel) (e0r hE (k := 3) (j := 12) (r := 10) (by decide +kernel))) ?_
  refine gm_sz (gm_p_load (pc := 4) (i := .iload_n 1) (sr := 0) (j := 1) (by decide +kernel) rfl rfl rfl) ?_
  refine gm_sz (gm_p_const (pc := 5) (i := .iconst 0) (v := gm_vi 0) (by decide +kernel) (by decide +kernel)) ?_
  refine gm_c_virt (k := 10) (ci := 2) (mj := 10) (ix := 72) (pc := 6) (as := [gm_vi l, gm_vi 0]) (st := []) (d' := d - 1) (bc' := 0) (bs' := 0) (by decide +kernel) (by decide +kernel) (by decide +kernel) (by decide +kernel) (e0k hE (k := 10) (c := 2) (by decide +kernel)).1 (e0k hE (k := 10) (c := 2) (by decide +kernel)).2 (by decide) (by decide +kernel) (show 2 = gm_na 10 by decide +kernel) (fw_c2 fw_si fw_si) (show 3 ≤ gm_ml 10 by decide +kernel) (Nat.le_of_ble_eq_true rfl) (by omega) (Nat.zero_le _) (Nat.zero_le _) ?_
  refine rw_none (s := N 4) (e0k hE (k := 10) (c := 2) (by decide +kernel)) (ti_let hT) (by omega) ⟨⟨by omega, by omega⟩, ⟨by omega, by omega⟩⟩ ?_
  show gm_Wp X LX d _ _ 28 9 _ [gm_vi (-1)] n K _ _ Q
  refine gm_sz (gm_p_const (pc := 9) (i := .iconst (-1)) (v := gm_vi (-1)) (by decide +kernel) (by decide +kernel)) ?_
  refine fw_icfd (cc := .ne) (pc := 10) (off := 7) (by decide +kernel) (by decide) ⟨by decide, by decide⟩ ⟨by decide, by decide⟩ (by decide) ?_
  refine gm_sz (gm_p_const (pc := 13) (i := .iconst 1) (v := gm_vi 1) (by decide +kernel) (by decide +kernel)) ?_
  refine gm_sz (gm_p_goto (pc := 14) (off := 4) (by decide +kernel) (by decide)) ?_
  exact gm_r_int (pc := 18) (by decide +kernel) (Or.inr ⟨(by decide +kernel), Or.inr rfl⟩) q0
noncomputable def ln_l206 (M : gm_M) : gm_M := gm_uM (gm_uM (gm_uM (gm_uM (gm_uM (gm_uM (gm_uM M 206 2 (-1)) 206 5 (-1)) 206 7 (-1)) 206 3 1) 206 4 (-1)) 206 6 0) 206 8 0
theorem ln_let206 (hd : 2 ≤ d) (hE : E0 n K R) (hT : TI N h sp M) (hN : NR N) (h1 : N 4 ≤ l ∧ l < 100) (q0 : Q (.inl (none)) n K R (ln_l206 M)) : gm_Wp X LX d bc bs 27 0 (gm_ent 27 [gm_vr 206, gm_vi l]) [] n K R M Q := by
  obtain ⟨⟨⟨a0, b0⟩, ⟨a1, b1⟩, ⟨a10, b10⟩, ⟨a11, b11⟩, ⟨a12, b12⟩, a9, b9⟩, ⟨⟨a2, b2⟩, ⟨a5, b5⟩, ⟨a3, b3⟩, ⟨a4, b4⟩, ⟨a6, b6⟩, ⟨a14, b14⟩, ⟨a7, b7⟩, a13, b13⟩, rF, rP, rL⟩ := id hN
  refine gm_sz (gm_p_load (pc := 0) (i := .aload_n 0) (sr := 2) (j := 0) (by decide +kernel) rfl rfl rfl) ?_
  refine gm_sz (fw_gr (pc := 1) (ix := 34) (ci := 5) (j := 0) (r := 3) (by decide +kernel) (e0k hE (k := 206) (c := 5) (by decide +kernel)) (by decide +kernel) (by decide +kernel) (e0r hE (k := 206) (j := 0) (r := 3) (by decide +kernel))) ?_
  refine gm_sz (fw_gr (pc := 4) (ix := 42) (ci := 1) (j := 12) (r := 10) (by decide +kernel) (e0k hE (k := 3) (c := 1) (by decide +kernel)) (by decide +kernel) (by decide +kernel) (e0r hE (k := 3) (j := 12) (r := 10) (by decide +kernel))) ?_
  refine gm_sz (gm_p_stor (pc := 7) (i := .astore_n 2) (sr := 2) (j := 2) (by decide +kernel) rfl (show 3 ≤ _ from Nat.le_of_ble_eq_true rfl) rfl) ?_
  refine gm_sz (gm_p_load (pc := 8) (i := .aload_n 0) (sr := 2) (j := 0) (by decide +kernel) rfl rfl rfl) ?_
  refine gm_sz (gm_p_load (pc := 9) (i := .aload_n 2) (sr := 2) (j := 2) (by decide +kernel) rfl rfl rfl) ?_
  refine gm_sz (gm_p_load (pc := 10) (i := .iload_n 1) (sr := 0) (j := 1) (by decide +kernel) rfl rfl rfl) ?_
  refine gm_sz (gm_p_const (pc := 11) (i := .iconst 2) (v := gm_vi 2) (by decide +kernel) (by decide +kernel)) ?_
  refine gm_c_virt (k := 10) (ci := 2) (mj := 10) (ix := 48) (pc := 12) (as := [gm_vi l, gm_vi 2]) (st := [gm_vr 206]) (d' := d - 1) (bc' := 0) (bs' := 0) (by decide +kernel) (by decide +kernel) (by decide +kernel) (by decide +kernel) (e0k hE (k := 10) (c := 2) (by decide +kernel)).1 (e0k hE (k := 10) (c := 2) (by decide +kernel)).2 (by decide) (by decide +kernel) (show 2 = gm_na 10 by decide +kernel) (fw_c2 fw_si fw_si) (show 3 ≤ gm_ml 10 by decide +kernel) (Nat.le_of_ble_eq_true rfl) (by omega) (Nat.zero_le _) (Nat.zero_le _) ?_
  refine rw_none (s := N 4) (e0k hE (k := 10) (c := 2) (by decide +kernel)) (ti_let hT) (by omega) ⟨⟨by omega, by omega⟩, ⟨by omega, by omega⟩⟩ ?_
  show gm_Wp X LX d _ _ 27 15 _ [gm_vi (-1), gm_vr 206] n K _ _ Q
  refine gm_sz (gm_p_load (pc := 15) (i := .aload_n 2) (sr := 2) (j := 2) (by decide +kernel) rfl rfl rfl) ?_
  refine gm_sz (gm_p_load (pc := 16) (i := .iload_n 1) (sr := 0) (j := 1) (by decide +kernel) rfl rfl rfl) ?_
  refine gm_sz (gm_p_const (pc := 17) (i := .iconst 4) (v := gm_vi 4) (by decide +kernel) (by decide +kernel)) ?_
  refine gm_c_virt (k := 10) (ci := 2) (mj := 10) (ix := 48) (pc := 18) (as := [gm_vi l, gm_vi 4]) (st := [gm_vi (-1), gm_vr 206]) (d' := d - 1) (bc' := 0) (bs' := 0) (by decide +kernel) (by decide +kernel) (by decide +kernel) (by decide +kernel) (e0k hE (k := 10) (c := 2) (by decide +kernel)).1 (e0k hE (k := 10) (c := 2) (by decide +kernel)).2 (by decide) (by decide +kernel) (show 2 = gm_na 10 by decide +kernel) (fw_c2 fw_si fw_si) (show 3 ≤ gm_ml 10 by decide +kernel) (Nat.le_of_ble_eq_true rfl) (by omega) (Nat.zero_le _) (Nat.zero_le _) ?_
  refine rw_none (s := N 4) (e0k hE (k := 10) (c := 2) (by decide +kernel)) (ti_let hT) (by omega) ⟨⟨by omega, by omega⟩, ⟨by omega, by omega⟩⟩ ?_
  show gm_Wp X LX d _ _ 27 21 _ [gm_vi (-1), gm_vi (-1), gm_vr 206] n K _ _ Q
  refine gm_sz (gm_p_load (pc := 21) (i := .aload_n 2) (sr := 2) (j := 2) (by decide +kernel) rfl rfl rfl) ?_
  refine gm_sz (gm_p_load (pc := 22) (i := .iload_n 1) (sr := 0) (j := 1) (by decide +kernel) rfl rfl rfl) ?_
  refine gm_sz (gm_p_const (pc := 23) (i := .iconst 3) (v := gm_vi 3) (by decide +kernel) (by decide +kernel)) ?_
  refine gm_c_virt (k := 10) (ci := 2) (mj := 10) (ix := 48) (pc := 24) (as := [gm_vi l, gm_vi 3]) (st := [gm_vi (-1), gm_vi (-1), gm_vr 206]) (d' := d - 1) (bc' := 0) (bs' := 0) (by decide +kernel) (by decide +kernel) (by decide +kernel) (by decide +kernel) (e0k hE (k := 10) (c := 2) (by decide +kernel)).1 (e0k hE (k := 10) (c := 2) (by decide +kernel)).2 (by decide) (by decide +kernel) (show 2 = gm_na 10 by decide +kernel) (fw_c2 fw_si fw_si) (show 3 ≤ gm_ml 10 by decide +kernel) (Nat.le_of_ble_eq_true rfl) (by omega) (Nat.zero_le _) (Nat.zero_le _) ?_
  refine rw_none (s := N 4) (e0k hE (k := 10) (c := 2) (by decide +kernel)) (ti_let hT) (by omega) ⟨⟨by omega, by omega⟩, ⟨by omega, by omega⟩⟩ ?_
  show gm_Wp X LX d _ _ 27 27 _ [gm_vi (-1), gm_vi (-1), gm_vi (-1), gm_vr 206] n K _ _ Q
  refine gm_sz (gm_p_load (pc := 27) (i := .aload_n 0) (sr := 2) (j := 0) (by decide +kernel) rfl rfl rfl) ?_
  refine gm_sz (fw_gr (pc := 28) (ix := 34) (ci := 5) (j := 0) (r := 3) (by decide +kernel) (e0k hE (k := 206) (c := 5) (by decide +kernel)) (by decide +kernel) (by decide +kernel) (e0r hE (k := 206) (j := 0) (r := 3) (by decide +kernel))) ?_
  refine gm_sz (gm_p_load (pc := 31) (i := .iload_n 1) (sr := 0) (j := 1) (by decide +kernel) rfl rfl rfl) ?_
  refine gm_c_virt (k := 3) (ci := 1) (mj := 28) (ix := 54) (pc := 32) (as := [gm_vi l]) (st := [gm_vi (-1), gm_vi (-1), gm_vi (-1), gm_vr 206]) (d' := d - 1) (bc' := 0) (bs' := 0) (by decide +kernel) (by decide +kernel) (by decide +kernel) (by decide +kernel) (e0k hE (k := 3) (c := 1) (by decide +kernel)).1 (e0k hE (k := 3) (c := 1) (by decide +kernel)).2 (by decide) (by decide +kernel) (show 1 = gm_na 28 by decide +kernel) (fw_c1 fw_si) (show 2 ≤ gm_ml 28 by decide +kernel) (Nat.le_of_ble_eq_true rfl) (by omega) (Nat.zero_le _) (Nat.zero_le _) ?_
  refine ln_rock (by omega) hE hT hN ⟨by omega, by omega⟩ ?_
  show gm_Wp X LX d _ _ 27 35 _ [gm_vi 1, gm_vi (-1), gm_vi (-1), gm_vi (-1), gm_vr 206] n K _ _ Q
  refine gm_c_virt (k := 206) (ci := 5) (mj := 29) (ix := 58) (pc := 35) (as := [gm_vi (-1), gm_vi (-1), gm_vi (-1), gm_vi 1]) (st := []) (d' := d - 1) (bc' := 0) (bs' := 0) (by decide +kernel) (by decide +kernel) (by decide +kernel) (by decide +kernel) (e0k hE (k := 206) (c := 5) (by decide +kernel)).1 (e0k hE (k := 206) (c := 5) (by decide +kernel)).2 (by decide) (by decide +kernel) (show 4 = gm_na 29 by decide +kernel) (fw_c4 fw_si fw_si fw_si fw_si) (show 5 ≤ gm_ml 29 by decide +kernel) (Nat.le_of_ble_eq_true rfl) (by omega) (Nat.zero_le _) (Nat.zero_le _) ?_
  refine wy_st206 hE hT hN ⟨by decide, by decide⟩ ?_
  show gm_Wp X LX d _ _ 27 38 _ [] n K _ _ Q
  exact gm_r_void (pc := 38) (by decide +kernel) (by decide +kernel) q0
noncomputable def ln_l207 (M : gm_M) : gm_M := gm_uM (gm_uM (gm_uM (gm_uM (gm_uM (gm_uM (gm_uM M 207 2 (-1)) 207 5 (-1)) 207 7 (-1)) 207 3 1) 207 4 (-1)) 207 6 0) 207 8 0
theorem ln_let207 (hd : 2 ≤ d) (hE : E0 n K R) (hT : TI N h sp M) (hN : NR N) (h1 : N 4 ≤ l ∧ l < 100) (q0 : Q (.inl (none)) n K R (ln_l207 M)) : gm_Wp X LX d bc bs 27 0 (gm_ent 27 [gm_vr 207, gm_vi l]) [] n K R M Q := by
  obtain ⟨⟨⟨a0, b0⟩, ⟨a1, b1⟩, ⟨a10, b10⟩, ⟨a11, b11⟩, ⟨a12, b12⟩, a9, b9⟩, ⟨⟨a2, b2⟩, ⟨a5, b5⟩, ⟨a3, b3⟩, ⟨a4, b4⟩, ⟨a6, b6⟩, ⟨a14, b14⟩, ⟨a7, b7⟩, a13, b13⟩, rF, rP, rL⟩ := id hN
  refine gm_sz (gm_p_load (pc := 0) (i := .aload_n 0) (sr := 2) (j := 0) (by decide +kernel) rfl rfl rfl) ?_
  refine gm_sz (fw_gr (pc := 1) (ix := 34) (ci := 5) (j := 0) (r := 3) (by decide +kernel) (e0k hE (k := 207) (c := 5) (by decide +kernel)) (by decide +kernel) (by decide +kernel) (e0r hE (k := 207) (j := 0) (r := 3) (by decide +kernel))) ?_
  refine gm_sz (fw_gr (pc := 4) (ix := 42) (ci := 1) (j := 12) (r := 10) (by decide +kernel) (e0k hE (k := 3) (c := 1) (by decide +kernel)) (by decide +kernel) (by decide +kernel) (e0r hE (k := 3) (j := 12) (r := 10) (by decide +kernel))) ?_
  refine gm_sz (gm_p_stor (pc := 7) (i := .astore_n 2) (sr := 2) (j := 2) (by decide +kernel) rfl (show 3 ≤ _ from Nat.le_of_ble_eq_true rfl) rfl) ?_
  refine gm_sz (gm_p_load (pc := 8) (i := .aload_n 0) (sr := 2) (j := 0) (by decide +kernel) rfl rfl rfl) ?_
  refine gm_sz (gm_p_load (pc := 9) (i := .aload_n 2) (sr := 2) (j := 2) (by decide +kernel) rfl rfl rfl) ?_
  refine gm_sz (gm_p_load (pc := 10) (i := .iload_n 1) (sr := 0) (j := 1) (by decide +kernel) rfl rfl rfl) ?_
  refine gm_sz (gm_p_const (pc := 11) (i := .iconst 2) (v := gm_vi 2) (by decide +kernel) (by decide +kernel)) ?_
  refine gm_c_virt (k := 10) (ci := 2) (mj := 10) (ix := 48) (pc := 12) (as := [gm_vi l, gm_vi 2]) (st := [gm_vr 207]) (d' := d - 1) (bc' := 0) (bs' := 0) (by decide +kernel) (by decide +kernel) (by decide +kernel) (by decide +kernel) (e0k hE (k := 10) (c := 2) (by decide +kernel)).1 (e0k hE (k := 10) (c := 2) (by decide +kernel)).2 (by decide) (by decide +kernel) (show 2 = gm_na 10 by decide +kernel) (fw_c2 fw_si fw_si) (show 3 ≤ gm_ml 10 by decide +kernel) (Nat.le_of_ble_eq_true rfl) (by omega) (Nat.zero_le _) (Nat.zero_le _) ?_
  refine rw_none (s := N 4) (e0k hE (k := 10) (c := 2) (by decide +kernel)) (ti_let hT) (by omega) ⟨⟨by omega, by omega⟩, ⟨by omega, by omega⟩⟩ ?_
  show gm_Wp X LX d _ _ 27 15 _ [gm_vi (-1), gm_vr 207] n K _ _ Q
  refine gm_sz (gm_p_load (pc := 15) (i := .aload_n 2) (sr := 2) (j := 2) (by decide +kernel) rfl rfl rfl) ?_
  refine gm_sz (gm_p_load (pc := 16) (i := .iload_n 1) (sr := 0) (j := 1) (by decide +kernel) rfl rfl rfl) ?_
  refine gm_sz (gm_p_const (pc := 17) (i := .iconst 4) (v := gm_vi 4) (by decide +kernel) (by decide +kernel)) ?_
  refine gm_c_virt (k := 10) (ci := 2) (mj := 10) (ix := 48) (pc := 18) (as := [gm_vi l, gm_vi 4]) (st := [gm_vi (-1), gm_vr 207]) (d' := d - 1) (bc' := 0) (bs' := 0) (by decide +kernel) (by decide +kernel) (by decide +kernel) (by decide +kernel) (e0k hE (k := 10) (c := 2) (by decide +kernel)).1 (e0k hE (k := 10) (c := 2) (by decide +kernel)).2 (by decide) (by decide +kernel) (show 2 = gm_na 10 by decide +kernel) (fw_c2 fw_si fw_si) (show 3 ≤ gm_ml 10 by decide +kernel) (Nat.le_of_ble_eq_true rfl) (by omega) (Nat.zero_le _) (Nat.zero_le _) ?_
  refine rw_none (s := N 4) (e0k hE (k := 10) (c := 2) (by decide +kernel)) (ti_let hT) (by omega) ⟨⟨by omega, by omega⟩, ⟨by omega, by omega⟩⟩ ?_
  show gm_Wp X LX d _ _ 27 21 _ [gm_vi (-1), gm_vi (-1), gm_vr 207] n K _ _ Q
  refine gm_sz (gm_p_load (pc := 21) (i := .aload_n 2) (sr := 2) (j := 2) (by decide +kernel) rfl rfl rfl) ?_
  refine gm_sz (gm_p_load (pc := 22) (i := .iload_n 1) (sr := 0) (j := 1) (by decide +kernel) rfl rfl rfl) ?_
  refine gm_sz (gm_p_const (pc := 23) (i := .iconst 3) (v := gm_vi 3) (by decide +kernel) (by decide +kernel)) ?_
  refine gm_c_virt (k := 10) (ci := 2) (mj := 10) (ix := 48) (pc := 24) (as := [gm_vi l, gm_vi 3]) (st := [gm_vi (-1), gm_vi (-1), gm_vr 207]) (d' := d - 1) (bc' := 0) (bs' := 0) (by decide +kernel) (by decide +kernel) (by decide +kernel) (by decide +kernel) (e0k hE (k := 10) (c := 2) (by decide +kernel)).1 (e0k hE (k := 10) (c := 2) (by decide +kernel)).2 (by decide) (by decide +kernel) (show 2 = gm_na 10 by decide +kernel) (fw_c2 fw_si fw_si) (show 3 ≤ gm_ml 10 by decide +kernel) (Nat.le_of_ble_eq_true rfl) (by omega) (Nat.zero_le _) (Nat.zero_le _) ?_
  refine rw_none (s := N 4) (e0k hE (k := 10) (c := 2) (by decide +kernel)) (ti_let hT) (by omega) ⟨⟨by omega, by omega⟩, ⟨by omega, by omega⟩⟩ ?_
  show gm_Wp X LX d _ _ 27 27 _ [gm_vi (-1), gm_vi (-1), gm_vi (-1), gm_vr 207] n K _ _ Q
  refine gm_sz (gm_p_load (pc := 27) (i := .aload_n 0) (sr := 2) (j := 0) (by decide +kernel) rfl rfl rfl) ?_
  refine gm_sz (fw_gr (pc := 28) (ix := 34) (ci := 5) (j := 0) (r := 3) (by decide +kernel) (e0k hE (k := 207) (c := 5) (by decide +kernel)) (by decide +kernel) (by decide +kernel) (e0r hE (k := 207) (j := 0) (r := 3) (by decide +kernel))) ?_
  refine gm_sz (gm_p_load (pc := 31) (i := .iload_n 1) (sr := 0) (j := 1) (by decide +kernel) rfl rfl rfl) ?_
  refine gm_c_virt (k := 3) (ci := 1) (mj := 28) (ix := 54) (pc := 32) (as := [gm_vi l]) (st := [gm_vi (-1), gm_vi (-1), gm_vi (-1), gm_vr 207]) (d' := d - 1) (bc' := 0) (bs' := 0) (by decide +kernel) (by decide +kernel) (by decide +kernel) (by decide +kernel) (e0k hE (k := 3) (c := 1) (by decide +kernel)).1 (e0k hE (k := 3) (c := 1) (by decide +kernel)).2 (by decide) (by decide +kernel) (show 1 = gm_na 28 by decide +kernel) (fw_c1 fw_si) (show 2 ≤ gm_ml 28 by decide +kernel) (Nat.le_of_ble_eq_true rfl) (by omega) (Nat.zero_le _) (Nat.zero_le _) ?_
  refine ln_rock (by omega) hE hT hN ⟨by omega, by omega⟩ ?_
  show gm_Wp X LX d _ _ 27 35 _ [gm_vi 1, gm_vi (-1), gm_vi (-1), gm_vi (-1), gm_vr 207] n K _ _ Q
  refine gm_c_virt (k := 207) (ci := 5) (mj := 29) (ix := 58) (pc := 35) (as := [gm_vi (-1), gm_vi (-1), gm_vi (-1), gm_vi 1]) (st := []) (d' := d - 1) (bc' := 0) (bs' := 0) (by decide +kernel) (by decide +kernel) (by decide +kernel) (by decide +kernel) (e0k hE (k := 207) (c := 5) (by decide +kernel)).1 (e0k hE (k := 207) (c := 5) (by decide +kernel)).2 (by decide) (by decide +kernel) (show 4 = gm_na 29 by decide +kernel) (fw_c4 fw_si fw_si fw_si fw_si) (show 5 ≤ gm_ml 29 by decide +kernel) (Nat.le_of_ble_eq_true rfl) (by omega) (Nat.zero_le _) (Nat.zero_le _) ?_
  refine wy_st207 hE hT hN ⟨by decide, by decide⟩ ?_
  show gm_Wp X LX d _ _ 27 38 _ [] n K _ _ Q
  exact gm_r_void (pc := 38) (by decide +kernel) (by decide +kernel) q0
noncomputable def ln_h206 (M : gm_M) (year : Int) : gm_M := gm_uM (gm_uM (gm_uM (gm_uM (gm_uM (gm_uM (gm_uM M 206 2 (-1)) 206 5 (-1)) 206 7 year) 206 3 0) 206 4 (-1)) 206 6 0) 206 8 0
theorem ln_hut206 (hd : 2 ≤ d) (hE : E0 n K R) (hT : TI N h sp M) (hN : NR N) (h1 : N 3 ≤ p ∧ p < 100) (q0 : Q (.inl (none)) n K R (ln_h206 M year)) : gm_Wp X LX d bc bs 170 0 (gm_ent 170 [gm_vr 206, gm_vi p, gm_vi year]) [] n K R M Q := by
  obtain ⟨⟨⟨a0, b0⟩, ⟨a1, b1⟩, ⟨a10, b10⟩, ⟨a11, b11⟩, ⟨a12, b12⟩, a9, b9⟩, ⟨⟨a2, b2⟩, ⟨a5, b5⟩, ⟨a3, b3⟩, ⟨a4, b4⟩, ⟨a6, b6⟩, ⟨a14, b14⟩, ⟨a7, b7⟩, a13, b13⟩, rF, rP, rL⟩ := id hN
  refine gm_sz (gm_p_load (pc := 0) (i := .aload_n 0) (sr := 2) (j := 0) (by decide +kernel) rfl rfl rfl) ?_
  refine gm_sz (gm_p_load (pc := 1) (i := .aload_n 0) (sr := 2) (j := 0) (by decide +kernel) rfl rfl rfl) ?_
  refine gm_sz (fw_gr (pc := 2) (ix := 34) (ci := 5) (j := 0) (r := 3) (by decide +kernel) (e0k hE (k := 206) (c := 5) (by decide +kernel)) (by decide +kernel) (by decide +kernel) (e0r hE (k := 206) (j := 0) (r := 3) (by decide +kernel))) ?_
  refine gm_sz (fw_gr (pc := 5) (ix := 62) (ci := 1) (j := 11) (r := 8) (by decide +kernel) (e0k hE (k := 3) (c := 1) (by decide +kernel)) (by decide +kernel) (by decide +kernel) (e0r hE (k := 3) (j := 11) (r := 8) (by decide +kernel))) ?_
  refine gm_sz (gm_p_load (pc := 8) (i := .iload_n 1) (sr := 0) (j := 1) (by decide +kernel) rfl rfl rfl) ?_
  refine gm_sz (gm_p_const (pc := 9) (i := .iconst 0) (v := gm_vi 0) (by decide +kernel) (by decide +kernel)) ?_
  refine gm_c_virt (k := 8) (ci := 2) (mj := 10) (ix := 48) (pc := 10) (as := [gm_vi p, gm_vi 0]) (st := [gm_vr 206]) (d' := d - 1) (bc' := 0) (bs' := 0) (by decide +kernel) (by decide +kernel) (by decide +kernel) (by decide +kernel) (e0k hE (k := 8) (c := 2) (by decide +kernel)).1 (e0k hE (k := 8) (c := 2) (by decide +kernel)).2 (by decide) (by decide +kernel) (show 2 = gm_na 10 by decide +kernel) (fw_c2 fw_si fw_si) (show 3 ≤ gm_ml 10 by decide +kernel) (Nat.le_of_ble_eq_true rfl) (by omega) (Nat.zero_le _) (Nat.zero_le _) ?_
  refine rw_none (s := N 3) (e0k hE (k := 8) (c := 2) (by decide +kernel)) (ti_peo hT) (by omega) ⟨⟨by omega, by omega⟩, ⟨by omega, by omega⟩⟩ ?_
  show gm_Wp X LX d _ _ 170 13 _ [gm_vi (-1), gm_vr 206] n K _ _ Q
  refine gm_sz (gm_p_load (pc := 13) (i := .aload_n 0) (sr := 2) (j := 0) (by decide +kernel) rfl rfl rfl) ?_
  refine gm_sz (fw_gr (pc := 14) (ix := 34) (ci := 5) (j := 0) (r := 3) (by decide +kernel) (e0k hE (k := 206) (c := 5) (by decide +kernel)) (by decide +kernel) (by decide +kernel) (e0r hE (k := 206) (j := 0) (r := 3) (by decide +kernel))) ?_
  refine gm_sz (fw_gr (pc := 17) (ix := 62) (ci := 1) (j := 11) (r := 8) (by decide +kernel) (e0k hE (k := 3) (c := 1) (by decide +kernel)) (by decide +kernel) (by decide +kernel) (e0r hE (k := 3) (j := 11) (r := 8) (by decide +kernel))) ?_
  refine gm_sz (gm_p_load (pc := 20) (i := .iload_n 1) (sr := 0) (j := 1) (by decide +kernel) rfl rfl rfl) ?_
  refine gm_sz (gm_p_const (pc := 21) (i := .iconst 1) (v := gm_vi 1) (by decide +kernel) (by decide +kernel)) ?_
  refine gm_c_virt (k := 8) (ci := 2) (mj := 10) (ix := 48) (pc := 22) (as := [gm_vi p, gm_vi 1]) (st := [gm_vi (-1), gm_vr 206]) (d' := d - 1) (bc' := 0) (bs' := 0) (by decide +kernel) (by decide +kernel) (by decide +kernel) (by decide +kernel) (e0k hE (k := 8) (c := 2) (by decide +kernel)).1 (e0k hE (k := 8) (c := 2) (by decide +kernel)).2 (by decide) (by decide +kernel) (show 2 = gm_na 10 by decide +kernel) (fw_c2 fw_si fw_si) (show 3 ≤ gm_ml 10 by decide +kernel) (Nat.le_of_ble_eq_true rfl) (by omega) (Nat.zero_le _) (Nat.zero_le _) ?_
  refine rw_none (s := N 3) (e0k hE (k := 8) (c := 2) (by decide +kernel)) (ti_peo hT) (by omega) ⟨⟨by omega, by omega⟩, ⟨by omega, by omega⟩⟩ ?_
  show gm_Wp X LX d _ _ 170 25 _ [gm_vi (-1), gm_vi (-1), gm_vr 206] n K _ _ Q
  refine gm_sz (gm_p_load (pc := 25) (i := .iload_n 2) (sr := 0) (j := 2) (by decide +kernel) rfl rfl rfl) ?_
  refine gm_sz (gm_p_const (pc := 26) (i := .iconst 0) (v := gm_vi 0) (by decide +kernel) (by decide +kernel)) ?_
  refine gm_c_virt (k := 206) (ci := 5) (mj := 29) (ix := 58) (pc := 27) (as := [gm_vi (-1), gm_vi (-1), gm_vi year, gm_vi 0]) (st := []) (d' := d - 1) (bc' := 0) (bs' := 0) (by decide +kernel) (by decide +kernel) (by decide +kernel) (by decide +kernel) (e0k hE (k := 206) (c := 5) (by decide +kernel)).1 (e0k hE (k := 206) (c := 5) (by decide +kernel)).2 (by decide) (by decide +kernel) (show 4 = gm_na 29 by decide +kernel) (fw_c4 fw_si fw_si fw_si fw_si) (show 5 ≤ gm_ml 29 by decide +kernel) (Nat.le_of_ble_eq_true rfl) (by omega) (Nat.zero_le _) (Nat.zero_le _) ?_
  refine wy_st206 hE hT hN ⟨by decide, by decide⟩ ?_
  show gm_Wp X LX d _ _ 170 30 _ [] n K _ _ Q
  exact gm_r_void (pc := 30) (by decide +kernel) (by decide +kernel) q0
noncomputable def q27_206p : ck_Sum := (((2 : Nat), (0 : Nat), (0 : Nat)), (249 : Nat), [.inr (.inr (.inl (206 : Nat))), .inl ((0 : Int), (23 : Int), [])], ([], [], []), ([((206 : Nat), (2 : Int), (8 : Int))], []), [(.inr none, (249 : Nat), ([], [], [((206 : Nat), (8 : Int), (8 : Int), ck_one 0), ((206 : Nat), (6 : Int), (6 : Int), ck_one 0), ((206 : Nat), (4 : Int), (4 : Int), ck_one (-1)), ((206 : Nat), (7 : Int), (7 : Int), ((-1 : Int), (299 : Int), [])), ((206 : Nat), (5 : Int), (5 : Int), ((-1 : Int), (299 : Int), [])), ((206 : Nat), (2 : Int), (2 : Int), ((-1 : Int), (299 : Int), []))]))])
noncomputable def q27_206 : ck_Sum := (((2 : Nat), (0 : Nat), (0 : Nat)), (249 : Nat), [.inr (.inr (.inl (206 : Nat))), .inl ((0 : Int), (23 : Int), [])], ([], [], []), ([((206 : Nat), (2 : Int), (8 : Int))], []), [(.inr none, (249 : Nat), ([], [], [((206 : Nat), (8 : Int), (8 : Int), ck_one 0), ((206 : Nat), (6 : Int), (6 : Int), ck_one 0), ((206 : Nat), (4 : Int), (4 : Int), ck_one (-1)), ((206 : Nat), (7 : Int), (7 : Int), ((0 : Int), (299 : Int), [])), ((206 : Nat), (5 : Int), (5 : Int), ((0 : Int), (98 : Int), [])), ((206 : Nat), (2 : Int), (2 : Int), ((0 : Int), (6 : Int), []))])), (.inr none, (249 : Nat), ([], [], [((206 : Nat), (8 : Int), (8 : Int), ck_one 0), ((206 : Nat), (6 : Int), (6 : Int), ck_one 0), ((206 : Nat), (4 : Int), (4 : Int), ck_one (-1)), ((206 : Nat), (7 : Int), (7 : Int), ((-1 : Int), (-1 : Int), [])), ((206 : Nat), (5 : Int), (5 : Int), ((-1 : Int), (-1 : Int), [])), ((206 : Nat), (2 : Int), (2 : Int), ((-1 : Int), (-1 : Int), []))]))])
theorem q27_206_s (hS : ck_Ok p2_OL X LX 27 q27_206p) : ck_Ok qL_O X LX 27 q27_206 := by
  intro d σ vs n K R M hd hn hvs hσ hF hf
  obtain ⟨v0, w0, rfl, g0, v1, w1, rfl, ⟨x0, rfl, r0, l0, u0, -⟩, g9⟩ := hvs
  have g9 : w1 = [] := g9
  subst g9
  have g0 : v0 = gm_vr 206 := g0
  subst g0
  have l0 : (0 : Int) ≤ x0 := l0
  have u0 : x0 ≤ (23 : Int) := u0
  have hn : n = 249 := hn
  subst hn
  have hd : 2 ≤ d := hd
  have F0 := pl_o (qL_p hF)
  have hrow := hS d σ [gm_vr 206, gm_vi x0] 249 K R M (show 2 ≤ d by omega) rfl ⟨_, _, rfl, rfl, _, _, rfl, ⟨x0, rfl, r0, l0, u0, fun _ h => nomatch h⟩, rfl⟩ (fun q hq => hσ q (List.mem_append_left _ hq)) (qL_p hF) ⟨(fun _ h => nomatch h), (fun _ h => nomatch h), (fun _ h => nomatch h)⟩
  have hq : ∃ N ls, qC (some ls) N M := by
    obtain ⟨hJ, N, ls, hq, -⟩ := hF.2.2.2.2
    exact ⟨N, ls, hq⟩
  obtain ⟨N, ls, hq⟩ := hq
  have hT := ti_x (cstF F0) hq.2.1
  have hN := hq.1.1.1
  have hE := e0F F0
  have hfun : gm_Wp X LX d 0 0 27 0 (gm_ent 27 [gm_vr 206, gm_vi x0]) [] 249 K R M (fun o n1 K1 R1 M1 => K1 = K ∧ (((0 ≤ M1 206 2 ∧ M1 206 2 ≤ 6) ∧ (0 ≤ M1 206 5 ∧ M1 206 5 ≤ 98) ∧ (0 ≤ M1 206 7 ∧ M1 206 7 ≤ 299)) ∨ (M1 206 2 = -1 ∧ M1 206 5 = -1 ∧ M1 206 7 = -1))) := by
    by_cases h4 : x0 < N 4
    · refine wy_let206 (by omega) hE hT hN ⟨l0, h4⟩ ⟨rfl, Or.inl ?_⟩
      have hB := hN.2.2.2.2 x0 l0 h4
      have b0 := hN.1.1
      have b1 := hN.1.2.1
      have b9 := hN.1.2.2.2.2.2
      have z2 : wy_l206 M N x0 206 2 = N (119 + (x0 * 7 + 2)) := by simp [wy_l206, gm_uM]
      have z5 : wy_l206 M N x0 206 5 = N (119 + (x0 * 7 + 4)) := by simp [wy_l206, gm_uM]
      have z7 : wy_l206 M N x0 206 7 = N (119 + (x0 * 7 + 3)) := by simp [wy_l206, gm_uM]
      rw [z2, z5, z7]
      obtain ⟨-, -, c2, c3, c4, -⟩ := hB
      exact ⟨⟨c2.1, by omega⟩, ⟨c4.1, by omega⟩, ⟨c3.1, by omega⟩⟩
    · refine ln_let206 (by omega) hE hT hN ⟨by omega, by omega⟩ ⟨rfl, Or.inr ?_⟩
      have z2 : ln_l206 M 206 2 = -1 := by simp [ln_l206, gm_uM]
      have z5 : ln_l206 M 206 5 = -1 := by simp [ln_l206, gm_uM]
      have z7 : ln_l206 M 206 7 = -1 := by simp [ln_l206, gm_uM]
      exact ⟨z2, z5, z7⟩
  refine gm_Wp_mono (fun o n2 K2 R2 M2 hh => ?_) (gm_Wp_and hrow hfun)
  obtain ⟨⟨hF2, hfr, oc, hoc, ho, hn2, hf2⟩, o3, n3, K3, R3, M3, ⟨rfl, hI⟩, -, hdt⟩ := hh
  have hKK : ∀ k, 1 ≤ k → k ≤ 249 → K3 k = K2 k := fun k _ hk => (hfr.2.1 k hk).symm
  have e1 : ∀ k j, k ≤ 249 → ¬ k = 206 → M2 k j = M k j := fun k j hk h => hfr.2.2.1 k j hk (fun w hw hh => by
    have := of_decide_eq_true (List.all_eq_true.mp (show q27_206p.2.2.2.2.1.1.all (fun w => decide (w.1 = 206)) = true by decide) w hw)
    omega)
  have e2 : M2 206 2 = gm_w (M3 206 2) := dw_f (dt_sym hdt) (by decide) hKK (pl_o hF2) (show tyF 206 5 2 = true by decide +kernel)
  rw [dw_i ⟨by omega, by omega⟩] at e2
  have e5 : M2 206 5 = gm_w (M3 206 5) := dw_f (dt_sym hdt) (by decide) hKK (pl_o hF2) (show tyF 206 5 5 = true by decide +kernel)
  rw [dw_i ⟨by omega, by omega⟩] at e5
  have e7 : M2 206 7 = gm_w (M3 206 7) := dw_f (dt_sym hdt) (by decide) hKK (pl_o hF2) (show tyF 206 5 7 = true by decide +kernel)
  rw [dw_i ⟨by omega, by omega⟩] at e7
  have ho2 := List.mem_singleton.mp hoc
  subst ho2
  have hF9 : gm_Fx qL_O n2 K2 R2 M2 := qL_b hF (by decide) hF2 hfr (fun N2 ls2 hq2 hk2 hw2 hlr2 => ⟨by
    rw [e1 1 15 (by decide) (by decide)]
    exact hq2.2.2.imp_right fun hh => ⟨hh.1, ends_x hh.2 (fun k j hk => e1 k j (by omega) (by omega))⟩, kfl_b hk2 ⟨by have := hq2.1.1.1.1.1; omega, by have := hq2.1.1.1.1.2.1; omega⟩ (e1 200 6 (by decide) (by decide)) (fun j _ _ => e1 205 j (by decide) (by decide))⟩)
  have hcn : 206 ≤ n2 := by have := hfr.1; omega
  have k8 := hf2.2.2 (206, 8, 8, ck_one 0) List.mem_cons_self
  have k6 := hf2.2.2 (206, 6, 6, ck_one 0) (List.mem_cons_of_mem _ List.mem_cons_self)
  have k4 := hf2.2.2 (206, 4, 4, ck_one (-1)) (List.mem_cons_of_mem _ (List.mem_cons_of_mem _ List.mem_cons_self))
  rcases hI with ⟨i2, i5, i7⟩ | ⟨i2, i5, i7⟩
  · refine ⟨hF9, hfr, _, List.mem_cons_self, ho, hn2, (fun _ h => nomatch h), (fun _ h => nomatch h), fun q hq9 => ?_⟩
    simp only [List.mem_cons, List.not_mem_nil, or_false] at hq9
    rcases hq9 with rfl | rfl | rfl | rfl | rfl | rfl
    · exact k8
    · exact k6
    · exact k4
    · refine ⟨hcn, fun j j1 j2 => ?_⟩
      have ej : j = 7 := Int.le_antisymm j2 j1
      subst ej
      exact ⟨(show gm_ir (M2 206 7) from ⟨by omega, by omega⟩), (show 0 ≤ M2 206 7 by omega), (show M2 206 7 ≤ 299 by omega), fun _ h => nomatch h⟩
    · refine ⟨hcn, fun j j1 j2 => ?_⟩
      have ej : j = 5 := Int.le_antisymm j2 j1
      subst ej
      exact ⟨(show gm_ir (M2 206 5) from ⟨by omega, by omega⟩), (show 0 ≤ M2 206 5 by omega), (show M2 206 5 ≤ 98 by omega), fun _ h => nomatch h⟩
    · refine ⟨hcn, fun j j1 j2 => ?_⟩
      have ej : j = 2 := Int.le_antisymm j2 j1
      subst ej
      exact ⟨(show gm_ir (M2 206 2) from ⟨by omega, by omega⟩), (show 0 ≤ M2 206 2 by omega), (show M2 206 2 ≤ 6 by omega), fun _ h => nomatch h⟩
  · refine ⟨hF9, hfr, _, (List.mem_cons_of_mem _ List.mem_cons_self), ho, hn2, (fun _ h => nomatch h), (fun _ h => nomatch h), fun q hq9 => ?_⟩
    simp only [List.mem_cons, List.not_mem_nil, or_false] at hq9
    rcases hq9 with rfl | rfl | rfl | rfl | rfl | rfl
    · exact k8
    · exact k6
    · exact k4
    · refine ⟨hcn, fun j j1 j2 => ?_⟩
      have ej : j = 7 := Int.le_antisymm j2 j1
      subst ej
      exact ⟨(show gm_ir (M2 206 7) from ⟨by omega, by omega⟩), (show -1 ≤ M2 206 7 by omega), (show M2 206 7 ≤ -1 by omega), fun _ h => nomatch h⟩
    · refine ⟨hcn, fun j j1 j2 => ?_⟩
      have ej : j = 5 := Int.le_antisymm j2 j1
      subst ej
      exact ⟨(show gm_ir (M2 206 5) from ⟨by omega, by omega⟩), (show -1 ≤ M2 206 5 by omega), (show M2 206 5 ≤ -1 by omega), fun _ h => nomatch h⟩
    · refine ⟨hcn, fun j j1 j2 => ?_⟩
      have ej : j = 2 := Int.le_antisymm j2 j1
      subst ej
      exact ⟨(show gm_ir (M2 206 2) from ⟨by omega, by omega⟩), (show -1 ≤ M2 206 2 by omega), (show M2 206 2 ≤ -1 by omega), fun _ h => nomatch h⟩
noncomputable def q27_207p : ck_Sum := (((2 : Nat), (0 : Nat), (0 : Nat)), (249 : Nat), [.inr (.inr (.inl (207 : Nat))), .inl ((0 : Int), (23 : Int), [])], ([], [], []), ([((207 : Nat), (2 : Int), (8 : Int))], []), [(.inr none, (249 : Nat), ([], [], [((207 : Nat), (8 : Int), (8 : Int), ck_one 0), ((207 : Nat), (6 : Int), (6 : Int), ck_one 0), ((207 : Nat), (7 : Int), (7 : Int), ((-1 : Int), (299 : Int), [])), ((207 : Nat), (5 : Int), (5 : Int), ((-1 : Int), (299 : Int), []))]))])
noncomputable def q27_207 : ck_Sum := (((2 : Nat), (0 : Nat), (0 : Nat)), (249 : Nat), [.inr (.inr (.inl (207 : Nat))), .inl ((0 : Int), (23 : Int), [])], ([], [], []), ([((207 : Nat), (2 : Int), (8 : Int))], []), [(.inr none, (249 : Nat), ([], [], [((207 : Nat), (8 : Int), (8 : Int), ck_one 0), ((207 : Nat), (6 : Int), (6 : Int), ck_one 0), ((207 : Nat), (7 : Int), (7 : Int), ((0 : Int), (299 : Int), [])), ((207 : Nat), (5 : Int), (5 : Int), ((0 : Int), (98 : Int), [])), ((207 : Nat), (2 : Int), (2 : Int), ((0 : Int), (6 : Int), []))])), (.inr none, (249 : Nat), ([], [], [((207 : Nat), (8 : Int), (8 : Int), ck_one 0), ((207 : Nat), (6 : Int), (6 : Int), ck_one 0), ((207 : Nat), (7 : Int), (7 : Int), ((-1 : Int), (-1 : Int), [])), ((207 : Nat), (5 : Int), (5 : Int), ((-1 : Int), (-1 : Int), [])), ((207 : Nat), (2 : Int), (2 : Int), ((-1 : Int), (-1 : Int), []))]))])
theorem q27_207_s (hS : ck_Ok p2_OL X LX 27 q27_207p) : ck_Ok qL_O X LX 27 q27_207 := by
  intro d σ vs n K R M hd hn hvs hσ hF hf
  obtain ⟨v0, w0, rfl, g0, v1, w1, rfl, ⟨x0, rfl, r0, l0, u0, -⟩, g9⟩ := hvs
  have g9 : w1 = [] := g9
  subst g9
  have g0 : v0 = gm_vr 207 := g0
  subst g0
  have l0 : (0 : Int) ≤ x0 := l0
  have u0 : x0 ≤ (23 : Int) := u0
  have hn : n = 249 := hn
  subst hn
  have hd : 2 ≤ d := hd
  have F0 := pl_o (qL_p hF)
  have hrow := hS d σ [gm_vr 207, gm_vi x0] 249 K R M (show 2 ≤ d by omega) rfl ⟨_, _, rfl, rfl, _, _, rfl, ⟨x0, rfl, r0, l0, u0, fun _ h => nomatch h⟩, rfl⟩ (fun q hq => hσ q (List.mem_append_left _ hq)) (qL_p hF) ⟨(fun _ h => nomatch h), (fun _ h => nomatch h), (fun _ h => nomatch h)⟩
  have hq : ∃ N ls, qC (some ls) N M := by
    obtain ⟨hJ, N, ls, hq, -⟩ := hF.2.2.2.2
    exact ⟨N, ls, hq⟩
  obtain ⟨N, ls, hq⟩ := hq
  have hT := ti_x (cstF F0) hq.2.1
  have hN := hq.1.1.1
  have hE := e0F F0
  have hfun : gm_Wp X LX d 0 0 27 0 (gm_ent 27 [gm_vr 207, gm_vi x0]) [] 249 K R M (fun o n1 K1 R1 M1 => K1 = K ∧ (((0 ≤ M1 207 2 ∧ M1 207 2 ≤ 6) ∧ (0 ≤ M1 207 5 ∧ M1 207 5 ≤ 98) ∧ (0 ≤ M1 207 7 ∧ M1 207 7 ≤ 299)) ∨ (M1 207 2 = -1 ∧ M1 207 5 = -1 ∧ M1 207 7 = -1))) := by
    by_cases h4 : x0 < N 4
    · refine wy_let207 (by omega) hE hT hN ⟨l0, h4⟩ ⟨rfl, Or.inl ?_⟩
      have hB := hN.2.2.2.2 x0 l0 h4
      have b0 := hN.1.1
      have b1 := hN.1.2.1
      have b9 := hN.1.2.2.2.2.2
      have z2 : wy_l207 M N x0 207 2 = N (119 + (x0 * 7 + 2)) := by simp [wy_l207, gm_uM]
      have z5 : wy_l207 M N x0 207 5 = N (119 + (x0 * 7 + 4)) := by simp [wy_l207, gm_uM]
      have z7 : wy_l207 M N x0 207 7 = N (119 + (x0 * 7 + 3)) := by simp [wy_l207, gm_uM]
      rw [z2, z5, z7]
      obtain ⟨-, -, c2, c3, c4, -⟩ := hB
      exact ⟨⟨c2.1, by omega⟩, ⟨c4.1, by omega⟩, ⟨c3.1, by omega⟩⟩
    · refine ln_let207 (by omega) hE hT hN ⟨by omega, by omega⟩ ⟨rfl, Or.inr ?_⟩
      have z2 : ln_l207 M 207 2 = -1 := by simp [ln_l207, gm_uM]
      have z5 : ln_l207 M 207 5 = -1 := by simp [ln_l207, gm_uM]
      have z7 : ln_l207 M 207 7 = -1 := by simp [ln_l207, gm_uM]
      exact ⟨z2, z5, z7⟩
  refine gm_Wp_mono (fun o n2 K2 R2 M2 hh => ?_) (gm_Wp_and hrow hfun)
  obtain ⟨⟨hF2, hfr, oc, hoc, ho, hn2, hf2⟩, o3, n3, K3, R3, M3, ⟨rfl, hI⟩, -, hdt⟩ := hh
  have hKK : ∀ k, 1 ≤ k → k ≤ 249 → K3 k = K2 k := fun k _ hk => (hfr.2.1 k hk).symm
  have e1 : ∀ k j, k ≤ 249 → ¬ k = 207 → M2 k j = M k j := fun k j hk h => hfr.2.2.1 k j hk (fun w hw hh => by
    have := of_decide_eq_true (List.all_eq_true.mp (show q27_207p.2.2.2.2.1.1.all (fun w => decide (w.1 = 207)) = true by decide) w hw)
    omega)
  have e2 : M2 207 2 = gm_w (M3 207 2) := dw_f (dt_sym hdt) (by decide) hKK (pl_o hF2) (show tyF 207 5 2 = true by decide +kernel)
  rw [dw_i ⟨by omega, by omega⟩] at e2
  have e5 : M2 207 5 = gm_w (M3 207 5) := dw_f (dt_sym hdt) (by decide) hKK (pl_o hF2) (show tyF 207 5 5 = true by decide +kernel)
  rw [dw_i ⟨by omega, by omega⟩] at e5
  have e7 : M2 207 7 = gm_w (M3 207 7) := dw_f (dt_sym hdt) (by decide) hKK (pl_o hF2) (show tyF 207 5 7 = true by decide +kernel)
  rw [dw_i ⟨by omega, by omega⟩] at e7
  have ho2 := List.mem_singleton.mp hoc
  subst ho2
  have hF9 : gm_Fx qL_O n2 K2 R2 M2 := qL_b hF (by decide) hF2 hfr (fun N2 ls2 hq2 hk2 hw2 hlr2 => ⟨by
    rw [e1 1 15 (by decide) (by decide)]
    exact hq2.2.2.imp_right fun hh => ⟨hh.1, ends_x hh.2 (fun k j hk => e1 k j (by omega) (by omega))⟩, kfl_b hk2 ⟨by have := hq2.1.1.1.1.1; omega, by have := hq2.1.1.1.1.2.1; omega⟩ (e1 200 6 (by decide) (by decide)) (fun j _ _ => e1 205 j (by decide) (by decide))⟩)
  have hcn : 207 ≤ n2 := by have := hfr.1; omega
  have k8 := hf2.2.2 (207, 8, 8, ck_one 0) List.mem_cons_self
  have k6 := hf2.2.2 (207, 6, 6, ck_one 0) (List.mem_cons_of_mem _ List.mem_cons_self)
  rcases hI with ⟨i2, i5, i7⟩ | ⟨i2, i5, i7⟩
  · refine ⟨hF9, hfr, _, List.mem_cons_self, ho, hn2, (fun _ h => nomatch h), (fun _ h => nomatch h), fun q hq9 => ?_⟩
    simp only [List.mem_cons, List.not_mem_nil, or_false] at hq9
    rcases hq9 with rfl | rfl | rfl | rfl | rfl
    · exact k8
    · exact k6
    · refine ⟨hcn, fun j j1 j2 => ?_⟩
      have ej : j = 7 := Int.le_antisymm j2 j1
      subst ej
      exact ⟨(show gm_ir (M2 207 7) from ⟨by omega, by omega⟩), (show 0 ≤ M2 207 7 by omega), (show M2 207 7 ≤ 299 by omega), fun _ h => nomatch h⟩
    · refine ⟨hcn, fun j j1 j2 => ?_⟩
      have ej : j = 5 := Int.le_antisymm j2 j1
      subst ej
      exact ⟨(show gm_ir (M2 207 5) from ⟨by omega, by omega⟩), (show 0 ≤ M2 207 5 by omega), (show M2 207 5 ≤ 98 by omega), fun _ h => nomatch h⟩
    · refine ⟨hcn, fun j j1 j2 => ?_⟩
      have ej : j = 2 := Int.le_antisymm j2 j1
      subst ej
      exact ⟨(show gm_ir (M2 207 2) from ⟨by omega, by omega⟩), (show 0 ≤ M2 207 2 by omega), (show M2 207 2 ≤ 6 by omega), fun _ h => nomatch h⟩
  · refine ⟨hF9, hfr, _, (List.mem_cons_of_mem _ List.mem_cons_self), ho, hn2, (fun _ h => nomatch h), (fun _ h => nomatch h), fun q hq9 => ?_⟩
    simp only [List.mem_cons, List.not_mem_nil, or_false] at hq9
    rcases hq9 with rfl | rfl | rfl | rfl | rfl
    · exact k8
    · exact k6
    · refine ⟨hcn, fun j j1 j2 => ?_⟩
      have ej : j = 7 := Int.le_antisymm j2 j1
      subst ej
      exact ⟨(show gm_ir (M2 207 7) from ⟨by omega, by omega⟩), (show -1 ≤ M2 207 7 by omega), (show M2 207 7 ≤ -1 by omega), fun _ h => nomatch h⟩
    · refine ⟨hcn, fun j j1 j2 => ?_⟩
      have ej : j = 5 := Int.le_antisymm j2 j1
      subst ej
      exact ⟨(show gm_ir (M2 207 5) from ⟨by omega, by omega⟩), (show -1 ≤ M2 207 5 by omega), (show M2 207 5 ≤ -1 by omega), fun _ h => nomatch h⟩
    · refine ⟨hcn, fun j j1 j2 => ?_⟩
      have ej : j = 2 := Int.le_antisymm j2 j1
      subst ej
      exact ⟨(show gm_ir (M2 207 2) from ⟨by omega, by omega⟩), (show -1 ≤ M2 207 2 by omega), (show M2 207 2 ≤ -1 by omega), fun _ h => nomatch h⟩
noncomputable def q170p : ck_Sum := (((1 : Nat), (0 : Nat), (0 : Nat)), (249 : Nat), [.inr (.inr (.inl (206 : Nat))), .inl ((0 : Int), (7 : Int), []), .inl ((0 : Int), (299 : Int), [])], ([], [], []), ([((206 : Nat), (2 : Int), (8 : Int))], []), [(.inr none, (249 : Nat), ([], [], [((206 : Nat), (8 : Int), (8 : Int), ck_one 0), ((206 : Nat), (6 : Int), (6 : Int), ck_one 0), ((206 : Nat), (4 : Int), (4 : Int), ck_one (-1)), ((206 : Nat), (7 : Int), (7 : Int), ((0 : Int), (299 : Int), []))]))])
noncomputable def q170 : ck_Sum := (((2 : Nat), (0 : Nat), (0 : Nat)), (249 : Nat), [.inr (.inr (.inl (206 : Nat))), .inl ((0 : Int), (7 : Int), []), .inl ((0 : Int), (299 : Int), [])], ([], [], []), ([((206 : Nat), (2 : Int), (8 : Int))], []), [(.inr none, (249 : Nat), ([], [], [((206 : Nat), (8 : Int), (8 : Int), ck_one 0), ((206 : Nat), (6 : Int), (6 : Int), ck_one 0), ((206 : Nat), (4 : Int), (4 : Int), ck_one (-1)), ((206 : Nat), (7 : Int), (7 : Int), ((0 : Int), (299 : Int), [])), ((206 : Nat), (5 : Int), (5 : Int), ((0 : Int), (98 : Int), [])), ((206 : Nat), (2 : Int), (2 : Int), ((0 : Int), (6 : Int), []))])), (.inr none, (249 : Nat), ([], [], [((206 : Nat), (8 : Int), (8 : Int), ck_one 0), ((206 : Nat), (6 : Int), (6 : Int), ck_one 0), ((206 : Nat), (4 : Int), (4 : Int), ck_one (-1)), ((206 : Nat), (7 : Int), (7 : Int), ((0 : Int), (299 : Int), [])), ((206 : Nat), (5 : Int), (5 : Int), ((-1 : Int), (-1 : Int), [])), ((206 : Nat), (2 : Int), (2 : Int), ((-1 : Int), (-1 : Int), []))]))])
theorem q170_s (hS : ck_Ok p2_OL X LX 170 q170p) : ck_Ok qL_O X LX 170 q170 := by
  intro d σ vs n K R M hd hn hvs hσ hF hf
  obtain ⟨v0, w0, rfl, g0, v1, w1, rfl, ⟨x0, rfl, r0, l0, u0, -⟩, v2, w2, rfl, ⟨x1, rfl, r1, l1, u1, -⟩, g9⟩ := hvs
  have g9 : w2 = [] := g9
  subst g9
  have g0 : v0 = gm_vr 206 := g0
  subst g0
  have l0 : (0 : Int) ≤ x0 := l0
  have u0 : x0 ≤ (7 : Int) := u0
  have l1 : (0 : Int) ≤ x1 := l1
  have u1 : x1 ≤ (299 : Int) := u1
  have hn : n = 249 := hn
  subst hn
  have hd : 2 ≤ d := hd
  have F0 := pl_o (qL_p hF)
  have hrow := hS d σ [gm_vr 206, gm_vi x0, gm_vi x1] 249 K R M (show 1 ≤ d by omega) rfl ⟨_, _, rfl, rfl, _, _, rfl, ⟨x0, rfl, r0, l0, u0, fun _ h => nomatch h⟩, _, _, rfl, ⟨x1, rfl, r1, l1, u1, fun _ h => nomatch h⟩, rfl⟩ (fun q hq => hσ q (List.mem_append_left _ hq)) (qL_p hF) ⟨(fun _ h => nomatch h), (fun _ h => nomatch h), (fun _ h => nomatch h)⟩
  have hq : ∃ N ls, qC (some ls) N M := by
    obtain ⟨hJ, N, ls, hq, -⟩ := hF.2.2.2.2
    exact ⟨N, ls, hq⟩
  obtain ⟨N, ls, hq⟩ := hq
  have hT := ti_x (cstF F0) hq.2.1
  have hN := hq.1.1.1
  have hE := e0F F0
  have hfun : gm_Wp X LX d 0 0 170 0 (gm_ent 170 [gm_vr 206, gm_vi x0, gm_vi x1]) [] 249 K R M (fun o n1 K1 R1 M1 => K1 = K ∧ (((0 ≤ M1 206 2 ∧ M1 206 2 ≤ 6) ∧ (0 ≤ M1 206 5 ∧ M1 206 5 ≤ 98) ∧ (0 ≤ M1 206 7 ∧ M1 206 7 ≤ 299)) ∨ (M1 206 2 = -1 ∧ M1 206 5 = -1 ∧ (0 ≤ M1 206 7 ∧ M1 206 7 ≤ 299)))) := by
    by_cases h4 : x0 < N 3
    · refine wy_hut206 (by omega) hE hT hN ⟨l0, h4⟩ ⟨rfl, Or.inl ?_⟩
      have hB := hN.2.2.2.1 x0 l0 h4
      have b0 := hN.1.1
      have b1 := hN.1.2.1
      have z2 : wy_h206 M N x0 x1 206 2 = N (95 + (x0 * 3 + 0)) := by simp [wy_h206, gm_uM]
      have z5 : wy_h206 M N x0 x1 206 5 = N (95 + (x0 * 3 + 1)) := by simp [wy_h206, gm_uM]
      have z7 : wy_h206 M N x0 x1 206 7 = x1 := by simp [wy_h206, gm_uM]
      rw [z2, z5, z7]
      obtain ⟨c2, c3, -⟩ := hB
      exact ⟨⟨c2.1, by omega⟩, ⟨c3.1, by omega⟩, ⟨l1, u1⟩⟩
    · refine ln_hut206 (by omega) hE hT hN ⟨by omega, by omega⟩ ⟨rfl, Or.inr ?_⟩
      have z2 : ln_h206 M x1 206 2 = -1 := by simp [ln_h206, gm_uM]
      have z5 : ln_h206 M x1 206 5 = -1 := by simp [ln_h206, gm_uM]
      have z7 : ln_h206 M x1 206 7 = x1 := by simp [ln_h206, gm_uM]
      exact ⟨z2, z5, by rw [z7]; exact ⟨l1, u1⟩⟩
  refine gm_Wp_mono (fun o n2 K2 R2 M2 hh => ?_) (gm_Wp_and hrow hfun)
  obtain ⟨⟨hF2, hfr, oc, hoc, ho, hn2, hf2⟩, o3, n3, K3, R3, M3, ⟨rfl, hI⟩, -, hdt⟩ := hh
  have hKK : ∀ k, 1 ≤ k → k ≤ 249 → K3 k = K2 k := fun k _ hk => (hfr.2.1 k hk).symm
  have e1 : ∀ k j, k ≤ 249 → ¬ k = 206 → M2 k j = M k j := fun k j hk h => hfr.2.2.1 k j hk (fun w hw hh => by
    have := of_decide_eq_true (List.all_eq_true.mp (show q170p.2.2.2.2.1.1.all (fun w => decide (w.1 = 206)) = true by decide) w hw)
    omega)
  have e2 : M2 206 2 = gm_w (M3 206 2) := dw_f (dt_sym hdt) (by decide) hKK (pl_o hF2) (show tyF 206 5 2 = true by decide +kernel)
  rw [dw_i ⟨by omega, by omega⟩] at e2
  have e5 : M2 206 5 = gm_w (M3 206 5) := dw_f (dt_sym hdt) (by decide) hKK (pl_o hF2) (show tyF 206 5 5 = true by decide +kernel)
  rw [dw_i ⟨by omega, by omega⟩] at e5
  have e7 : M2 206 7 = gm_w (M3 206 7) := dw_f (dt_sym hdt) (by decide) hKK (pl_o hF2) (show tyF 206 5 7 = true by decide +kernel)
  rw [dw_i ⟨by omega, by omega⟩] at e7
  have ho2 := List.mem_singleton.mp hoc
  subst ho2
  have hF9 : gm_Fx qL_O n2 K2 R2 M2 := qL_b hF (by decide) hF2 hfr (fun N2 ls2 hq2 hk2 hw2 hlr2 => ⟨by
    rw [e1 1 15 (by decide) (by decide)]
    exact hq2.2.2.imp_right fun hh => ⟨hh.1, ends_x hh.2 (fun k j hk => e1 k j (by omega) (by omega))⟩, kfl_b hk2 ⟨by have := hq2.1.1.1.1.1; omega, by have := hq2.1.1.1.1.2.1; omega⟩ (e1 200 6 (by decide) (by decide)) (fun j _ _ => e1 205 j (by decide) (by decide))⟩)
  have hcn : 206 ≤ n2 := by have := hfr.1; omega
  have k8 := hf2.2.2 (206, 8, 8, ck_one 0) List.mem_cons_self
  have k6 := hf2.2.2 (206, 6, 6, ck_one 0) (List.mem_cons_of_mem _ List.mem_cons_self)
  have k4 := hf2.2.2 (206, 4, 4, ck_one (-1)) (List.mem_cons_of_mem _ (List.mem_cons_of_mem _ List.mem_cons_self))
  rcases hI with ⟨i2, i5, i7⟩ | ⟨i2, i5, i7⟩
  · refine ⟨hF9, hfr, _, List.mem_cons_self, ho, hn2, (fun _ h => nomatch h), (fun _ h => nomatch h), fun q hq9 => ?_⟩
    simp only [List.mem_cons, List.not_mem_nil, or_false] at hq9
    rcases hq9 with rfl | rfl | rfl | rfl | rfl | rfl
    · exact k8
    · exact k6
    · exact k4
    · refine ⟨hcn, fun j j1 j2 => ?_⟩
      have ej : j = 7 := Int.le_antisymm j2 j1
      subst ej
      exact ⟨(show gm_ir (M2 206 7) from ⟨by omega, by omega⟩), (show 0 ≤ M2 206 7 by omega), (show M2 206 7 ≤ 299 by omega), fun _ h => nomatch h⟩
    · refine ⟨hcn, fun j j1 j2 => ?_⟩
      have ej : j = 5 := Int.le_antisymm j2 j1
      subst ej
      exact ⟨(show gm_ir (M2 206 5) from ⟨by omega, by omega⟩), (show 0 ≤ M2 206 5 by omega), (show M2 206 5 ≤ 98 by omega), fun _ h => nomatch h⟩
    · refine ⟨hcn, fun j j1 j2 => ?_⟩
      have ej : j = 2 := Int.le_antisymm j2 j1
      subst ej
      exact ⟨(show gm_ir (M2 206 2) from ⟨by omega, by omega⟩), (show 0 ≤ M2 206 2 by omega), (show M2 206 2 ≤ 6 by omega), fun _ h => nomatch h⟩
  · refine ⟨hF9, hfr, _, (List.mem_cons_of_mem _ List.mem_cons_self), ho, hn2, (fun _ h => nomatch h), (fun _ h => nomatch h), fun q hq9 => ?_⟩
    simp only [List.mem_cons, List.not_mem_nil, or_false] at hq9
    rcases hq9 with rfl | rfl | rfl | rfl | rfl | rfl
    · exact k8
    · exact k6
    · exact k4
    · refine ⟨hcn, fun j j1 j2 => ?_⟩
      have ej : j = 7 := Int.le_antisymm j2 j1
      subst ej
      exact ⟨(show gm_ir (M2 206 7) from ⟨by omega, by omega⟩), (show 0 ≤ M2 206 7 by omega), (show M2 206 7 ≤ 299 by omega), fun _ h => nomatch h⟩
    · refine ⟨hcn, fun j j1 j2 => ?_⟩
      have ej : j = 5 := Int.le_antisymm j2 j1
      subst ej
      exact ⟨(show gm_ir (M2 206 5) from ⟨by omega, by omega⟩), (show -1 ≤ M2 206 5 by omega), (show M2 206 5 ≤ -1 by omega), fun _ h => nomatch h⟩
    · refine ⟨hcn, fun j j1 j2 => ?_⟩
      have ej : j = 2 := Int.le_antisymm j2 j1
      subst ej
      exact ⟨(show gm_ir (M2 206 2) from ⟨by omega, by omega⟩), (show -1 ≤ M2 206 2 by omega), (show M2 206 2 ≤ -1 by omega), fun _ h => nomatch h⟩
noncomputable def q29 : ck_Sum := (((0 : Nat), (0 : Nat), (0 : Nat)), (249 : Nat), [.inr (.inr (.inl (206 : Nat))), .inl ((0 : Int), (6 : Int), []), .inl ((0 : Int), (98 : Int), []), .inl ((0 : Int), (299 : Int), []), .inl ((0 : Int), (1 : Int), [])], ([], [], []), ([((206 : Nat), (2 : Int), (8 : Int))], []), [(.inr none, (249 : Nat), ([], [], [((206 : Nat), (8 : Int), (8 : Int), ck_one 0), ((206 : Nat), (6 : Int), (6 : Int), ck_one 0), ((206 : Nat), (4 : Int), (4 : Int), ck_one (-1)), ((206 : Nat), (7 : Int), (7 : Int), ((0 : Int), (299 : Int), [])), ((206 : Nat), (5 : Int), (5 : Int), ((0 : Int), (98 : Int), [])), ((206 : Nat), (2 : Int), (2 : Int), ((0 : Int), (6 : Int), []))]))])
theorem q29_s : ck_Ok qL_O X LX 29 q29 := ck_okq (cuts := []) (f := 100) ⟨qL_nmu, ck_E0⟩ (by decide +kernel)
end SL28
end
/-! 7c29.ft -/
section
/-! FIT, told of the world: it empties the TAPE of both. -/
section FT29
variable {X : Int → Int} {LX : Nat} {O : gm_Or} {g z g1 : Nat} {la la2 : Nat → Nat} {K K2 : gm_K} {R R2 : gm_R} {M M2 : gm_M} {L : gm_L} {st : List gm_V} {Q : gm_Q} {N N0 : Int → Int} {lw lw0 : Option (List lln)} {A A0 : List (Int → Int)} {im im0 : Option ((Int → Int) × Option (List lln))} {t w t0 w0 : Int} {f f0 : Int → Int} {bc bs pc ix : Nat} {l0 l1 l : List ck_Sum} {ds : List (Int × Int)} {S : ck_Sum}
noncomputable def z_at (S : ck_Sum) (k : Nat) (j : Int) : Bool := S.2.2.2.2.2.all fun oc => oc.2.2.2.2.any fun q => decide (q.1 = k ∧ q.2.1 = j ∧ q.2.2.1 = j ∧ q.2.2.2.1 = 0 ∧ q.2.2.2.2.1 = 0)
theorem z_at_s {σ : Nat → Int} {oc : ck_Oc} {n k : Nat} {j : Int} {K' : gm_K} {R' : gm_R} {M' : gm_M} (h : z_at S k j = true) (hoc : oc ∈ S.2.2.2.2.2) (hf : ck_gf σ oc.2.2 n K' R' M') : M' k j = 0 := by
  obtain ⟨q, hq, h2⟩ := List.any_eq_true.mp (List.all_eq_true.mp h oc hoc)
  obtain ⟨e1, e2, e3, e4, e5⟩ := of_decide_eq_true h2
  have := ((hf.2.2 q hq).2 j (by omega) (by omega)).2
  rw [e1] at this
  have h1 := this.1
  have h2 := this.2.1
  omega
noncomputable def w_ft (O : gm_Or) (z g1 k1 : Nat) (t : Bool) (kk : Nat) (jj : Int) (S : ck_Sum) : Bool := bc_ok O z g1 S && (bc_args S k1 t && (decide (S.1.1 + 1 ≤ 280 ∧ S.1.2.1 ≤ 6 ∧ S.1.2.2 ≤ 600) && (S.2.2.2.2.1.2.isEmpty && ((S.2.2.2.2.1.1.all fun w => !(cKb w || rKb w) || (decide (w.1 = kk) && ((decide (jj - 1 < w.2.1) || !(cKb (w.1, w.2.1, jj - 1) || rKb (w.1, w.2.1, jj - 1))) && (decide (w.2.2 < jj + 1) || !(cKb (w.1, jj + 1, w.2.2) || rKb (w.1, jj + 1, w.2.2)))))) && z_at S kk jj))))
theorem ft_e {n0 n : Nat} {K0 K' : gm_K} {R0 R' : gm_R} {M0 M' : gm_M} {kk : Nat} {jj : Int} (h : (S.2.2.2.2.1.1.all fun w => !(cKb w || rKb w) || (decide (w.1 = kk) && ((decide (jj - 1 < w.2.1) || !(cKb (w.1, w.2.1, jj - 1) || rKb (w.1, w.2.1, jj - 1))) && (decide (w.2.2 < jj + 1) || !(cKb (w.1, jj + 1, w.2.2) || rKb (w.1, jj + 1, w.2.2)))))) = true) (hfr : ck_fr S.2.2.2.2.1 n0 K0 R0 M0 n K' R' M') {k : Nat} {j : Int} (hk : k ≤ n0) (hc : cK k j ∨ rK k j) (hne : ¬ (k = kk ∧ j = jj)) : M' k j = M0 k j := by
  refine hfr.2.2.1 k j hk fun w hw hh => ?_
  have := List.all_eq_true.mp h w hw
  simp only [Bool.or_eq_true, Bool.and_eq_true, Bool.not_eq_true', Bool.or_eq_false_iff, decide_eq_true_eq] at this
  have bad : ∀ {w2 : Nat × Int × Int}, (w2.1 = k ∧ w2.2.1 ≤ j ∧ j ≤ w2.2.2) → cKb w2 = false ∧ rKb w2 = false → False := fun {w2} h2 h3 => by
    rcases hc with hc | hc
    · rw [cKb_s hc h2] at h3; exact absurd h3.1 (by decide)
    · rw [rKb_s hc h2] at h3; exact absurd h3.2 (by decide)
  rcases this with h9 | ⟨h9, h10, h11⟩
  · exact bad hh h9
  · by_cases hj : j < jj
    · rcases h10 with h10 | h10
      · have := hh.2.1
        omega
      · exact bad (w2 := (w.1, w.2.1, jj - 1)) ⟨hh.1, hh.2.1, by show j ≤ jj - 1; omega⟩ h10
    · have : ¬ j = jj := fun e => hne ⟨by rw [← hh.1]; exact h9, e⟩
      rcases h11 with h11 | h11
      · have := hh.2.2
        omega
      · exact bad (w2 := (w.1, jj + 1, w.2.2)) ⟨hh.1, by show jj + 1 ≤ j; omega, hh.2.2⟩ h11
theorem fx_K {k1 : Nat} {tt : Bool} (hb : bg g la K R M) (hz : bs_ok la z g1) (hck : w_ft O z g1 k1 tt 1 1 S = true) (hR : REL la K M N lw A im t w f) (hbc : 6 ≤ bc) (hbs : 600 ≤ bs) (k : mq_K X LX bc bs pc L st Q g (fun la2 K2 M2 => MID la2 K2 M2 N lw A im 0 w f N lw A im t w f) (fun u _ => mq_V S u)) : bc_KX X LX 280 (bc - S.1.2.1) (bs - S.1.2.2) 370 pc L st Q O z g1 g la K M S := by
  simp only [w_ft, Bool.and_eq_true, decide_eq_true_eq, List.isEmpty_iff] at hck
  obtain ⟨-, -, hbd, hR2, hW, hz0⟩ := hck
  intro oc hoc σ u n' K' R' M' _ ho hf hF hfr hb2
  have eR : ∀ k j, k ≤ 245 + 4 * g1 → R' k j = bs_R z g1 k j := fun k j hk => hfr.2.2.2 k j hk (by rw [hR2]; exact fun h => nomatch h)
  have e : ∀ k j, k ≤ 245 → (cK k j ∨ rK k j) → ¬ (k = 1 ∧ j = 1) → bg_M g M M' k j = M k j := fun k j hk h hne => by
    rw [bg_Ms hk, ft_e hW hfr (by omega) h hne, vM hk]
  have e0 : bg_M g M M' 1 1 = 0 := (bg_Ms (show 1 ≤ 245 by decide) 1).trans (z_at_s hz0 hoc hf)
  obtain ⟨hG, hL, hA, hI, ht, hw9, hf9⟩ := hR.1
  refine gm_Wp_wk (Nat.le_refl _) (by omega) (by omega) (k u _ _ _ _ ⟨oc, hoc, σ, ho⟩ hb2 ⟨⟨hG, hL, hA, hI, ⟨by decide, by decide⟩, hw9, hf9⟩, hR.1, lwl_e hR.2.1 hb.2.2.2 (fun s hs => ?_) (e 42 1 (by decide) (Or.inl (by unfold cK; omega)) (by decide)) (fun k k1 k2 => bg_Ks k2) (fun k j k1 k2 => bg_oldM k1 k2), clv_e (clv_t (t2 := 0) hR.2.2.1) (cstF hb2.2.1) (fun k j hk => ?_), rfv_e hR.2.2.2 (fun k j hk => e k j (by have := rk_le hk; omega) (Or.inr hk) (by have := rk_le hk; omega))⟩)
  · show bg_dc la g 0 (R' s 8) = la s
    rw [eR s 8 (by have := bg_ssl hs; omega)]
    exact bg_dcs hz hs
  · by_cases h1 : k = 1 ∧ j = 1
    · obtain ⟨rfl, rfl⟩ := h1
      exact e0.trans uM_at.symm
    · rw [uM_ne h1]
      exact e k j (by have := ck_le hk; omega) (Or.inl hk) h1
theorem fm_K (hb : bg g la K R M) (hck : w_ft p2_O 100003 0 226 false 226 8 S = true) (hR : MID la K M N lw A im 0 w f N lw A im t w f) (hbc : 6 ≤ bc) (hbs : 600 ≤ bs) (k : mq_K X LX bc bs pc L st Q g (fun la2 K2 M2 => REL la2 K2 M2 N lw A im 0 w f) (fun u _ => mq_V S u)) : bc_KX X LX 280 (bc - S.1.2.1) (bs - S.1.2.2) 370 pc L st Q p2_O 100003 0 g la K M S := by
  have hz : bs_ok la 100003 0 := Or.inr (Or.inl ⟨rfl, rfl⟩)
  simp only [w_ft, Bool.and_eq_true, decide_eq_true_eq, List.isEmpty_iff] at hck
  obtain ⟨-, -, hbd, hR2, hW, hz0⟩ := hck
  intro oc hoc σ u n' K' R' M' _ ho hf hF hfr hb2
  have eR : ∀ k j, k ≤ 245 + 4 * 0 → R' k j = bs_R 100003 0 k j := fun k j hk => hfr.2.2.2 k j hk (by rw [hR2]; exact fun h => nomatch h)
  have e : ∀ k j, k ≤ 245 → (cK k j ∨ rK k j) → ¬ (k = 226 ∧ j = 8) → bg_M g M M' k j = M k j := fun k j hk h hne => by
    rw [bg_Ms hk, ft_e hW hfr (by omega) h hne, vM hk]
  have e0 : bg_M g M M' 226 8 = 0 := (bg_Ms (show 226 ≤ 245 by decide) 8).trans (z_at_s hz0 hoc hf)
  obtain ⟨hra, hra0, hL, hC, hV⟩ := hR
  refine gm_Wp_wk (Nat.le_refl _) (by omega) (by omega) (k u _ _ _ _ ⟨oc, hoc, σ, ho⟩ hb2 ⟨hra, lwl_e hL hb.2.2.2 (fun s hs => ?_) (e 42 1 (by decide) (Or.inl (by unfold cK; omega)) (by decide)) (fun k k1 k2 => bg_Ks k2) (fun k j k1 k2 => bg_oldM k1 k2), clv_e hC (cstF hb2.2.1) (fun k j hk => e k j (by have := ck_le hk; omega) (Or.inl hk) (by have := ck_le hk; omega)), rfv_tape hV e0 (fun j j0 j1 => (e 231 j (by decide) (Or.inr (by unfold rK; omega)) (by omega)).trans (hV.2.2.2.2 j j0 j1)) (fun k j hk h1 h2 => e k j (by have := rk_le hk; omega) (Or.inr hk) h2)⟩)
  show bg_dc la g 0 (R' s 8) = la s
  rw [eR s 8 (by have := bg_ssl hs; omega)]
  exact bg_dcs hz hs
end FT29
end
/-! 7c30.rk -/
section
/-! THE REFERENCE'S flowAt: a row under what is kept. -/
section RK30
variable {X : Int → Int} {LX n n1 n2 : Nat} {K K1 K2 : gm_K} {R R2 : gm_R} {M M1 M2 : gm_M} {N h G : Int → Int} {lw : Option (List lln)} {φ : Int → Int → Int → Int}
theorem frx_a (hE : E0 n K R) (hG : LAWG lw G) (hN : NR N) (hS : NSb 6 N) : ∀ (d bc bs : Nat) (M : gm_M) (Q : gm_Q) (lane row year : Int), 12 ≤ d → 0 ≤ lane ∧ lane < 6 → 0 ≤ row ∧ row < 99 → 0 ≤ year ∧ year < 300 → TR N h M → FIR G lw N h M → (∀ M2 v, FIR G lw N h M2 → Q (.inl (some (gm_vi v))) n K R M2) → gm_Wp X LX d bc bs 292 0 (gm_ent 292 [gm_vr 226, gm_vi lane, gm_vi row, gm_vi year]) [] n K R M Q := by
  intro d bc bs M Q lane row year hd hl hr hy hT hI hq
  cases lw with
  | none =>
    have he : ∀ l r y, 0 ≤ l ∧ l < 6 → 0 ≤ r ∧ r < 99 → 0 ≤ y ∧ y < 300 → aphi none N h l r y = rphi0 N l r y := fun l r y hl _ _ => aphi_n hl
    exact re_flr0x hE hN hS (hG.1 rfl) d bc bs M Q lane row year hd hl hr hy hT ⟨(kfr_cg he).mp hI.1, hI.2⟩ (fun M2 _ hI2 => hq M2 _ ⟨(kfr_cg he).mpr hI2.1, hI2.2⟩)
  | some ls =>
    obtain ⟨hW, hR, hL⟩ := hG.2 ls rfl
    have he : ∀ l r y, 0 ≤ l ∧ l < 6 → 0 ≤ r ∧ r < 99 → 0 ≤ y ∧ y < 300 → aphi (some ls) N h l r y = rphi N h (HH ls) G (ls.length : Int) l r y := fun l r y hl _ _ => by rw [aphi_s hl, ← rphi_gcl hR]
    exact re_flrx hE hN hS hL (hhl_x hW hR) d bc bs M Q lane row year hd hl hr hy hT ⟨(kfr_cg he).mp hI.1, hI.2⟩ (fun M2 _ hI2 => hq M2 _ ⟨(kfr_cg he).mpr hI2.1, hI2.2⟩)
theorem kfr_dt (hd : dt_m n K1 M1 K2 M2) (hn : 245 ≤ n) (hK : ∀ k, 1 ≤ k → k ≤ n → K1 k = K2 k) (hF : gm_Fx p2_O n2 K2 R2 M2) (hk : KFR N φ M1) : KFR N φ M2 := by
  have f26 : M2 226 26 = gm_w (M1 226 26) := dw_f hd hn hK hF dr_c2.2.2.2.2
  have c26 : M2 226 26 = M1 226 26 := by rw [f26]; exact dw_i ⟨by have := hk.1.1; omega, by have := hk.1.2; omega⟩
  have c35 : ∀ j, 0 ≤ j → j < 29700 → M2 235 j = M1 235 j := fun j j0 j1 => by
    have := hk.2.1 j j0 j1
    rw [dw_a hd hn hK hF dr_c1.2.2.2.2 j0 (by omega)]
    exact dw_i ⟨by omega, by omega⟩
  refine ⟨by rw [c26]; exact hk.1, fun j j0 j1 => by rw [c35 j j0 j1]; exact hk.2.1 j j0 j1, fun r y l0 l1 r0 r1 y0 y1 => ?_⟩
  rw [c26] at l0 l1 ⊢
  rw [c35 _ (by omega) (by omega)]
  exact hk.2.2 r y l0 l1 r0 r1 y0 y1
noncomputable def q292_W : List (Nat × Int × Int) × List (Nat × Int) := ([((226 : Nat), (17 : Int), (23 : Int)), ((226 : Nat), (26 : Int), (26 : Int)), ((233 : Nat), (0 : Int), (399 : Int)), ((235 : Nat), (0 : Int), (29699 : Int))], [])
noncomputable def q292p (a b : Int) : ck_Sum := ((4, 0, 0), 245, [.inr (.inr (.inl 226)), .inl (a, b, []), .inl (0, 98, []), .inl (0, 299, [])], ([], [], [(227, 2, 2, (0, 8, [(20, 0)]))]), q292_W, [(.inr (some (.inl (0, 30, []))), 245, ([], [], [(226, 26, 26, (a, b, []))]))])
noncomputable def q292 : ck_Sum := (((12 : Nat), (0 : Nat), (0 : Nat)), (245 : Nat), [.inr (.inr (.inl (226 : Nat))), .inl ((0 : Int), (6 : Int), []), .inl ((0 : Int), (98 : Int), []), .inl ((0 : Int), (299 : Int), [])], ([], [], [((227 : Nat), (2 : Int), (2 : Int), ((0 : Int), (8 : Int), [((20 : Nat), (0 : Int))]))]), q292_W, [(.inr (some (.inl ((0 : Int), (30 : Int), []))), (245 : Nat), ([], [], [((226 : Nat), (26 : Int), (26 : Int), ((0 : Int), (6 : Int), []))]))])
/-- behind it: the standing condition, if FLOWs that are kept are right -/
theorem qR_b {W : List (Nat × Int × Int) × List (Nat × Int)} (hF : gm_Fx qR_O n K R M) (hW : W.1.all (fun w => decide (w.1 = 226 ∨ w.1 = 233 ∨ w.1 = 235)) = true) (hF2 : gm_Fx p2_O n2 K2 R2 M2) (hfr : ck_fr W n K R M n2 K2 R2 M2) (hx : ∀ N lw, GJ N → TR N (hts (N 13)) M → LAWR lw (M 227) → KFR N (aphi lw N (hts (N 13))) M → KFR N (aphi lw N (hts (N 13))) M2) : gm_Fx qR_O n2 K2 R2 M2 := by
  obtain ⟨hJ, N, lw, hG, hT, hL, hk⟩ := hF.2.2.2.2
  have hn : 245 ≤ n := (k245 (e0F (qR_p hF))).1
  have e : ∀ (k : Nat) (j : Int), k ≤ n → ¬ (k = 226 ∨ k = 233 ∨ k = 235) → M2 k j = M k j := fun k j hk9 h => hfr.2.2.1 k j hk9 (fun w hw hh => by
    have := of_decide_eq_true (List.all_eq_true.mp hW w hw)
    omega)
  have e7 : M2 227 = M 227 := funext fun j => e 227 j (by omega) (by decide)
  exact ⟨hF2.1, hF2.2.1, hF2.2.2.1, fun k r hr => Nat.le_trans (hF.2.2.2.1 k r hr) hfr.1, hF2.2.2.2.2, N, lw, hG, ⟨by rw [e7]; exact hT.1, fun y y0 y1 => by rw [e 234 y (by omega) (by decide)]; exact hT.2 y y0 y1⟩, by rw [e7]; exact hL, hx N lw hG hT hL hk⟩
theorem q292_s (hS : ck_Ok p2_O X LX 292 (q292p 0 6)) (hS6 : ck_Ok p2_O X LX 292 (q292p 6 6)) : ck_Ok qR_O X LX 292 q292 := by
  intro d σ vs n K R M hd hn hvs hσ hF hf
  obtain ⟨v0, w0, rfl, g0, v1, w1, rfl, ⟨l, rfl, hl, l0, l1, -⟩, v2, w2, rfl, ⟨r, rfl, hr, r0, r1, -⟩, v3, w3, rfl, ⟨y, rfl, hy, y0, y1, -⟩, g4⟩ := hvs
  have g4 : w3 = [] := g4
  subst g4
  have g0 : v0 = gm_vr 226 := g0
  subst g0
  have l0 : (0 : Int) ≤ l := l0
  have l1 : l ≤ (6 : Int) := l1
  have r0 : (0 : Int) ≤ r := r0
  have r1 : r ≤ (98 : Int) := r1
  have y0 : (0 : Int) ≤ y := y0
  have y1 : y ≤ (299 : Int) := y1
  have hd : 12 ≤ d := hd
  have hn : n = 245 := hn
  subst hn
  have F0 := qR_p hF
  by_cases h6 : l = 6
  · subst h6
    have hrow := hS6 d σ [gm_vr 226, gm_vi 6, gm_vi r, gm_vi y] 245 K R M (show 4 ≤ d by omega) rfl ⟨_, _, rfl, rfl, _, _, rfl, ⟨6, rfl, hl, Int.le_refl _, Int.le_refl _, fun _ h => nomatch h⟩, _, _, rfl, ⟨r, rfl, hr, r0, r1, fun _ h => nomatch h⟩, _, _, rfl, ⟨y, rfl, hy, y0, y1, fun _ h => nomatch h⟩, rfl⟩ hσ F0 hf
    refine gm_Wp_mono (fun o n2 K2 R2 M2 hh => ?_) hrow
    obtain ⟨hF2, hfr, oc, hoc, ho, hn2, hf2⟩ := hh
    have hoc := List.mem_singleton.mp hoc
    subst hoc
    have f26 := ((hf2.2.2 (226, 26, 26, (6, 6, [])) List.mem_cons_self).2 26 (Int.le_refl _) (Int.le_refl _))
    have z0 : (6 : Int) ≤ M2 226 26 := f26.2.1
    have z1 : M2 226 26 ≤ (6 : Int) := f26.2.2.1
    have t35 := (gm_tyr_s hF2 (show gm_tyr p2_O 235 0 29699 = some (0, 31) by decide +kernel)).2
    refine ⟨qR_b hF (by decide) hF2 hfr (fun N lw _ _ _ _ => ⟨⟨by omega, by omega⟩, fun j j0 j1 => (t35 j j0 (by omega)).2, fun r y h0 h1 => absurd h1 (by omega)⟩), hfr, _, List.mem_cons_self, ho, hn2, (fun _ h => nomatch h), (fun _ h => nomatch h), fun q hq => ?_⟩
    rw [List.mem_singleton.mp hq]
    refine ⟨show 226 ≤ n2 by have := hfr.1; omega, fun j j1 j2 => ?_⟩
    have ej : j = 26 := Int.le_antisymm j2 j1
    subst ej
    exact ⟨f26.1, (show (0 : Int) ≤ M2 226 26 by omega), z1, fun _ h => nomatch h⟩
  · have hrow := hS d σ [gm_vr 226, gm_vi l, gm_vi r, gm_vi y] 245 K R M (show 4 ≤ d by omega) rfl ⟨_, _, rfl, rfl, _, _, rfl, ⟨l, rfl, hl, l0, l1, fun _ h => nomatch h⟩, _, _, rfl, ⟨r, rfl, hr, r0, r1, fun _ h => nomatch h⟩, _, _, rfl, ⟨y, rfl, hy, y0, y1, fun _ h => nomatch h⟩, rfl⟩ hσ F0 hf
    have hJ : ∃ N lw, GJ N ∧ TR N (hts (N 13)) M ∧ LAWR lw (M 227) ∧ KFR N (aphi lw N (hts (N 13))) M := hF.2.2.2.2.2
    obtain ⟨N, lw, hG, hT, hL, hk⟩ := hJ
    have hfun := frx_a (X := X) (LX := LX) (h := hts (N 13)) (e0F F0) (lawg_of hL F0.2.2.2.2.2.2.1) hG.1.1 (ns6 F0 hT.1 hG.1.1) d 0 0 M (fun o n1 K1 R1 M1 => K1 = K ∧ KFR N (aphi lw N (hts (N 13))) M1) l r y hd ⟨l0, by omega⟩ ⟨r0, by omega⟩ ⟨y0, by omega⟩ hT ⟨hk, fun _ _ => rfl⟩ (fun M2 v hI => ⟨rfl, hI.1⟩)
    refine gm_Wp_mono (fun o n2 K2 R2 M2 hh => ?_) (gm_Wp_and hrow hfun)
    obtain ⟨⟨hF2, hfr, hoc⟩, o3, n3, K3, R3, M3, ⟨rfl, hI⟩, -, hdt⟩ := hh
    have hKK : ∀ k, 1 ≤ k → k ≤ 245 → K3 k = K2 k := fun k _ hk => (hfr.2.1 k hk).symm
    have e7 : M2 227 = M 227 := funext fun j => hfr.2.2.1 227 j (by decide) (fun w hw hh => absurd hh (of_decide_eq_true (List.all_eq_true.mp (show q292_W.1.all (fun w => decide (¬ (w.1 = 227 ∧ w.2.1 ≤ j ∧ j ≤ w.2.2))) = true by simp [q292_W]) w hw)))
    have e34 : ∀ j, M2 234 j = M 234 j := fun j => hfr.2.2.1 234 j (by decide) (fun w hw hh => absurd hh (of_decide_eq_true (List.all_eq_true.mp (show q292_W.1.all (fun w => decide (¬ (w.1 = 234 ∧ w.2.1 ≤ j ∧ j ≤ w.2.2))) = true by simp [q292_W]) w hw)))
    exact ⟨⟨hF2.1, hF2.2.1, hF2.2.2.1, fun k r hr => Nat.le_trans (hF.2.2.2.1 k r hr) hfr.1, hF2.2.2.2.2, N, lw, hG, ⟨by rw [e7]; exact hT.1, fun y y0 y1 => by rw [e34 y]; exact hT.2 y y0 y1⟩, by rw [e7]; exact hL, kfr_dt (dt_sym hdt) (by decide) hKK hF2 hI⟩, hfr, hoc⟩
end RK30
end
/-! 7c31.pm -/
section
/-! TWO TRAVELLERS, a letter's first bare YEAR: loops over steps under a law. -/
section PM31
variable {X : Int → Int} {LX d n2 : Nat} {K K0 K2 : gm_K} {R R0 R2 : gm_R} {M M0 M2 : gm_M} {Q : gm_Q} {i j l a b y v : Int}
theorem sp_e {c : Nat} {V : List (Nat × Int × Int) × List (Nat × Int)} (h2 : ck_fr V 249 K R M n2 K2 R2 M2) (hc : c ≤ 249) (hw : V.1.all (fun w => decide (¬ w.1 = c)) = true) (hs : SPc c i M) : SPc c i M2 := by
  have e : ∀ j, M2 c j = M c j := fun j => h2.2.2.1 c j hc (fun w hw9 hh => of_decide_eq_true (List.all_eq_true.mp hw w hw9) hh.1)
  unfold SPc at hs ⊢
  rw [e, e, e]
  exact hs
noncomputable def q31_W : List (Nat × Int × Int) × List (Nat × Int) := ([((200 : Nat), (6 : Int), (6 : Int)), ((204 : Nat), (0 : Int), (9 : Int)), ((205 : Nat), (0 : Int), (14849 : Int)), ((206 : Nat), (2 : Int), (8 : Int)), ((207 : Nat), (2 : Int), (8 : Int))], [])
theorem r8_f (h8 : R0 3 8 = 246) (h : ck_fr q31_W 249 K0 R0 M0 249 K R M) : R 3 8 = 246 := (h.2.2.2 3 8 (by decide) (fun h => nomatch h)).trans h8
theorem q27_206_c (hS : ck_Ok qL_O X LX 27 q27_206) (hd : 2 ≤ d) (hF : gm_Fx qL_O 249 K R M) (hl : 0 ≤ l ∧ l ≤ 23) (q : ∀ i K2 R2 M2, i ≤ 299 → gm_Fx qL_O 249 K2 R2 M2 → ck_fr ([(206, 2, 8)], []) 249 K R M 249 K2 R2 M2 → SPc 206 i M2 → Q (.inl none) 249 K2 R2 M2) : gm_Wp X LX d 0 0 27 0 (gm_ent 27 [gm_vr 206, gm_vi l]) [] 249 K R M Q := by
  have hσ := ck_sn_s (σ := fun _ => 0) (M := M) qL_nmu
  refine gm_Wp_mono (fun o n' K' R' M' hq => ?_) (hS d (ck_sn qL_O (fun _ => 0) M) [gm_vr 206, gm_vi l] 249 K R M hd rfl ⟨_, _, rfl, rfl, _, _, rfl, ⟨l, rfl, ⟨by omega, by omega⟩, hl.1, hl.2, fun _ h => nomatch h⟩, rfl⟩ hσ hF ⟨(fun _ h => nomatch h), (fun _ h => nomatch h), (fun _ h => nomatch h)⟩)
  obtain ⟨hF2, hfr, oc, hoc, ho, hn, hf⟩ := hq
  have hoc : oc ∈ [_, _] := hoc
  simp only [List.mem_cons, List.not_mem_nil, or_false] at hoc
  rcases hoc with rfl | rfl
  · have hn : n' = 249 := hn
    subst hn
    rcases o with (_ | v) | x
    · have f7 := ((hf.2.2 (206, 7, 7, (0, 299, [])) (List.mem_cons_of_mem _ (List.mem_cons_of_mem _ (List.mem_cons_of_mem _ List.mem_cons_self)))).2 7 (Int.le_refl _) (Int.le_refl _)).2
      have f5 := ((hf.2.2 (206, 5, 5, (0, 98, [])) (List.mem_cons_of_mem _ (List.mem_cons_of_mem _ (List.mem_cons_of_mem _ (List.mem_cons_of_mem _ List.mem_cons_self))))).2 5 (Int.le_refl _) (Int.le_refl _)).2
      have f2 := ((hf.2.2 (206, 2, 2, (0, 6, [])) (List.mem_cons_of_mem _ (List.mem_cons_of_mem _ (List.mem_cons_of_mem _ (List.mem_cons_of_mem _ (List.mem_cons_of_mem _ List.mem_cons_self)))))).2 2 (Int.le_refl _) (Int.le_refl _)).2
      have g7 : (0 : Int) ≤ M' 206 7 ∧ M' 206 7 ≤ (299 : Int) := ⟨f7.1, f7.2.1⟩
      have g5 : (0 : Int) ≤ M' 206 5 ∧ M' 206 5 ≤ (98 : Int) := ⟨f5.1, f5.2.1⟩
      have g2 : (0 : Int) ≤ M' 206 2 ∧ M' 206 2 ≤ (6 : Int) := ⟨f2.1, f2.2.1⟩
      exact q (M' 206 7) _ _ _ (by omega) hF2 hfr ⟨by omega, by omega, rfl⟩
    · exact absurd ho id
    · exact absurd ho id
  · have hn : n' = 249 := hn
    subst hn
    rcases o with (_ | v) | x
    · have f7 := ((hf.2.2 (206, 7, 7, ((-1), (-1), [])) (List.mem_cons_of_mem _ (List.mem_cons_of_mem _ (List.mem_cons_of_mem _ List.mem_cons_self)))).2 7 (Int.le_refl _) (Int.le_refl _)).2
      have f5 := ((hf.2.2 (206, 5, 5, ((-1), (-1), [])) (List.mem_cons_of_mem _ (List.mem_cons_of_mem _ (List.mem_cons_of_mem _ (List.mem_cons_of_mem _ List.mem_cons_self))))).2 5 (Int.le_refl _) (Int.le_refl _)).2
      have f2 := ((hf.2.2 (206, 2, 2, ((-1), (-1), [])) (List.mem_cons_of_mem _ (List.mem_cons_of_mem _ (List.mem_cons_of_mem _ (List.mem_cons_of_mem _ (List.mem_cons_of_mem _ List.mem_cons_self)))))).2 2 (Int.le_refl _) (Int.le_refl _)).2
      have g7 : ((-1) : Int) ≤ M' 206 7 ∧ M' 206 7 ≤ ((-1) : Int) := ⟨f7.1, f7.2.1⟩
      have g5 : ((-1) : Int) ≤ M' 206 5 ∧ M' 206 5 ≤ ((-1) : Int) := ⟨f5.1, f5.2.1⟩
      have g2 : ((-1) : Int) ≤ M' 206 2 ∧ M' 206 2 ≤ ((-1) : Int) := ⟨f2.1, f2.2.1⟩
      exact q (M' 206 7) _ _ _ (by omega) hF2 hfr ⟨by omega, by omega, rfl⟩
    · exact absurd ho id
    · exact absurd ho id
theorem q27_207_c (hS : ck_Ok qL_O X LX 27 q27_207) (hd : 2 ≤ d) (hF : gm_Fx qL_O 249 K R M) (hl : 0 ≤ l ∧ l ≤ 23) (q : ∀ i K2 R2 M2, i ≤ 299 → gm_Fx qL_O 249 K2 R2 M2 → ck_fr ([(207, 2, 8)], []) 249 K R M 249 K2 R2 M2 → SPc 207 i M2 → Q (.inl none) 249 K2 R2 M2) : gm_Wp X LX d 0 0 27 0 (gm_ent 27 [gm_vr 207, gm_vi l]) [] 249 K R M Q := by
  have hσ := ck_sn_s (σ := fun _ => 0) (M := M) qL_nmu
  refine gm_Wp_mono (fun o n' K' R' M' hq => ?_) (hS d (ck_sn qL_O (fun _ => 0) M) [gm_vr 207, gm_vi l] 249 K R M hd rfl ⟨_, _, rfl, rfl, _, _, rfl, ⟨l, rfl, ⟨by omega, by omega⟩, hl.1, hl.2, fun _ h => nomatch h⟩, rfl⟩ hσ hF ⟨(fun _ h => nomatch h), (fun _ h => nomatch h), (fun _ h => nomatch h)⟩)
  obtain ⟨hF2, hfr, oc, hoc, ho, hn, hf⟩ := hq
  have hoc : oc ∈ [_, _] := hoc
  simp only [List.mem_cons, List.not_mem_nil, or_false] at hoc
  rcases hoc with rfl | rfl
  · have hn : n' = 249 := hn
    subst hn
    rcases o with (_ | v) | x
    · have f7 := ((hf.2.2 (207, 7, 7, (0, 299, [])) (List.mem_cons_of_mem _ (List.mem_cons_of_mem _ List.mem_cons_self))).2 7 (Int.le_refl _) (Int.le_refl _)).2
      have f5 := ((hf.2.2 (207, 5, 5, (0, 98, [])) (List.mem_cons_of_mem _ (List.mem_cons_of_mem _ (List.mem_cons_of_mem _ List.mem_cons_self)))).2 5 (Int.le_refl _) (Int.le_refl _)).2
      have f2 := ((hf.2.2 (207, 2, 2, (0, 6, [])) (List.mem_cons_of_mem _ (List.mem_cons_of_mem _ (List.mem_cons_of_mem _ (List.mem_cons_of_mem _ List.mem_cons_self))))).2 2 (Int.le_refl _) (Int.le_refl _)).2
      have g7 : (0 : Int) ≤ M' 207 7 ∧ M' 207 7 ≤ (299 : Int) := ⟨f7.1, f7.2.1⟩
      have g5 : (0 : Int) ≤ M' 207 5 ∧ M' 207 5 ≤ (98 : Int) := ⟨f5.1, f5.2.1⟩
      have g2 : (0 : Int) ≤ M' 207 2 ∧ M' 207 2 ≤ (6 : Int) := ⟨f2.1, f2.2.1⟩
      exact q (M' 207 7) _ _ _ (by omega) hF2 hfr ⟨by omega, by omega, rfl⟩
    · exact absurd ho id
    · exact absurd ho id
  · have hn : n' = 249 := hn
    subst hn
    rcases o with (_ | v) | x
    · have f7 := ((hf.2.2 (207, 7, 7, ((-1), (-1), [])) (List.mem_cons_of_mem _ (List.mem_cons_of_mem _ List.mem_cons_self))).2 7 (Int.le_refl _) (Int.le_refl _)).2
      have f5 := ((hf.2.2 (207, 5, 5, ((-1), (-1), [])) (List.mem_cons_of_mem _ (List.mem_cons_of_mem _ (List.mem_cons_of_mem _ List.mem_cons_self)))).2 5 (Int.le_refl _) (Int.le_refl _)).2
      have f2 := ((hf.2.2 (207, 2, 2, ((-1), (-1), [])) (List.mem_cons_of_mem _ (List.mem_cons_of_mem _ (List.mem_cons_of_mem _ (List.mem_cons_of_mem _ List.mem_cons_self))))).2 2 (Int.le_refl _) (Int.le_refl _)).2
      have g7 : ((-1) : Int) ≤ M' 207 7 ∧ M' 207 7 ≤ ((-1) : Int) := ⟨f7.1, f7.2.1⟩
      have g5 : ((-1) : Int) ≤ M' 207 5 ∧ M' 207 5 ≤ ((-1) : Int) := ⟨f5.1, f5.2.1⟩
      have g2 : ((-1) : Int) ≤ M' 207 2 ∧ M' 207 2 ≤ ((-1) : Int) := ⟨f2.1, f2.2.1⟩
      exact q (M' 207 7) _ _ _ (by omega) hF2 hfr ⟨by omega, by omega, rfl⟩
    · exact absurd ho id
    · exact absurd ho id
theorem q184_c (h6 : s32_206 X LX) (h7 : s32_207 X LX) (hd : 14 ≤ d) (hF : gm_Fx qL_O 249 K R M) (h8 : R 3 8 = 246) (hs6 : SPc 206 i M) (hs7 : SPc 207 j M) (hi : i ≤ 299) (hj : j ≤ 299) (q : ∀ K2 R2 M2, gm_Fx qL_O 249 K2 R2 M2 → ck_fr q31_W 249 K R M 249 K2 R2 M2 → SPc 206 (i + 1) M2 → SPc 207 (j + 1) M2 → Q (.inl none) 249 K2 R2 M2) : gm_Wp X LX d 0 0 184 0 (gm_ent 184 [gm_vr 1]) [] 249 K R M Q := by
  refine gm_sz (gm_p_load (pc := 0) (i := .aload_n 0) (sr := 2) (j := 0) (by decide +kernel) rfl rfl rfl) ?_
  refine gm_sz (fw_gr (pc := 1) (ix := 58) (ci := 0) (j := 9) (r := 206) (by decide +kernel) (e0k (e0F (pl_o (qL_p hF))) (k := 1) (c := 0) (by decide +kernel)) (by decide +kernel) (by decide +kernel) (e0r (e0F (pl_o (qL_p hF))) (k := 1) (j := 9) (r := 206) (by decide +kernel))) ?_
  refine gm_c_virt (k := 206) (ci := 5) (mj := 32) (ix := 447) (pc := 4) (as := []) (st := []) (d' := 13) (bc' := 0) (bs' := 0) (by decide +kernel) (by decide +kernel) (by decide +kernel) (by decide +kernel) (e0k (e0F (pl_o (qL_p hF))) (k := 206) (c := 5) (by decide +kernel)).1 (e0k (e0F (pl_o (qL_p hF))) (k := 206) (c := 5) (by decide +kernel)).2 (by decide) (by decide +kernel) (show 0 = gm_na 32 by decide +kernel) fw_c0 (show 0 + 1 ≤ gm_ml 32 by decide +kernel) (Nat.le_of_ble_eq_true rfl) (by omega) (Nat.zero_le _) (Nat.zero_le _) ?_
  refine q32_206_c h6 (Nat.le_refl _) hF h8 hs6 hi (fun K2 R2 M2 hF2 hf2 hs62 => ?_)
  have hfr2 : ck_fr q31_W 249 K R M 249 K2 R2 M2 := ck_fr_tr ck_fr_0 hf2 (by decide) (by decide)
  show gm_Wp X LX d 0 0 184 7 [some (gm_vr 1)] [] 249 K2 R2 M2 Q
  refine gm_sz (gm_p_load (pc := 7) (i := .aload_n 0) (sr := 2) (j := 0) (by decide +kernel) rfl rfl rfl) ?_
  refine gm_sz (fw_gr (pc := 8) (ix := 62) (ci := 0) (j := 10) (r := 207) (by decide +kernel) (e0k (e0F (pl_o (qL_p hF2))) (k := 1) (c := 0) (by decide +kernel)) (by decide +kernel) (by decide +kernel) (e0r (e0F (pl_o (qL_p hF2))) (k := 1) (j := 10) (r := 207) (by decide +kernel))) ?_
  refine gm_c_virt (k := 207) (ci := 5) (mj := 32) (ix := 447) (pc := 11) (as := []) (st := []) (d' := 13) (bc' := 0) (bs' := 0) (by decide +kernel) (by decide +kernel) (by decide +kernel) (by decide +kernel) (e0k (e0F (pl_o (qL_p hF2))) (k := 207) (c := 5) (by decide +kernel)).1 (e0k (e0F (pl_o (qL_p hF2))) (k := 207) (c := 5) (by decide +kernel)).2 (by decide) (by decide +kernel) (show 0 = gm_na 32 by decide +kernel) fw_c0 (show 0 + 1 ≤ gm_ml 32 by decide +kernel) (Nat.le_of_ble_eq_true rfl) (by omega) (Nat.zero_le _) (Nat.zero_le _) ?_
  refine q32_207_c h7 (Nat.le_refl _) hF2 (r8_f h8 hfr2) (sp_e hf2 (by decide) (by decide) hs7) hj (fun K3 R3 M3 hF3 hf3 hs73 => ?_)
  show gm_Wp X LX d 0 0 184 14 [some (gm_vr 1)] [] 249 K3 R3 M3 Q
  exact gm_r_void (pc := 14) (by decide +kernel) (by decide +kernel) (q _ _ _ hF3 (ck_fr_tr hfr2 hf3 (by decide) (by decide)) (sp_e hf3 (by decide) (by decide) hs62) hs73)
theorem q182_c (h6 : s32_206 X LX) (h7 : s32_207 X LX) (s6 : ck_Ok qL_O X LX 27 q27_206) (s7 : ck_Ok qL_O X LX 27 q27_207) (hd : 15 ≤ d) (hF : gm_Fx qL_O 249 K R M) (h8 : R 3 8 = 246) (ha : 0 ≤ a ∧ a ≤ 23) (hb : 0 ≤ b ∧ b ≤ 23) (hy : 0 ≤ y ∧ y ≤ 299) (q : ∀ v K2 R2 M2, 0 ≤ v → v ≤ 299 → gm_Fx qL_O 249 K2 R2 M2 → ck_fr q31_W 249 K R M 249 K2 R2 M2 → SPc 206 v M2 → SPc 207 v M2 → Q (.inl (some (gm_vi v))) 249 K2 R2 M2) : gm_Wp X LX d 0 0 182 0 (gm_ent 182 [gm_vr 1, gm_vi a, gm_vi b, gm_vi y]) [] 249 K R M Q := by
  refine gm_sz (gm_p_load (pc := 0) (i := .aload_n 0) (sr := 2) (j := 0) (by decide +kernel) rfl rfl rfl) ?_
  refine gm_sz (fw_gr (pc := 1) (ix := 58) (ci := 0) (j := 9) (r := 206) (by decide +kernel) (e0k (e0F (pl_o (qL_p hF))) (k := 1) (c := 0) (by decide +kernel)) (by decide +kernel) (by decide +kernel) (e0r (e0F (pl_o (qL_p hF))) (k := 1) (j := 9) (r := 206) (by decide +kernel))) ?_
  refine gm_sz (gm_p_load (pc := 4) (i := .iload_n 1) (sr := 0) (j := 1) (by decide +kernel) rfl rfl rfl) ?_
  refine gm_c_virt (k := 206) (ci := 5) (mj := 27) (ix := 217) (pc := 5) (as := [gm_vi a]) (st := []) (d' := 2) (bc' := 0) (bs' := 0) (by decide +kernel) (by decide +kernel) (by decide +kernel) (by decide +kernel) (e0k (e0F (pl_o (qL_p hF))) (k := 206) (c := 5) (by decide +kernel)).1 (e0k (e0F (pl_o (qL_p hF))) (k := 206) (c := 5) (by decide +kernel)).2 (by decide) (by decide +kernel) (show 1 = gm_na 27 by decide +kernel) (fw_c1 (by simp [gm_sort])) (show 1 + 1 ≤ gm_ml 27 by decide +kernel) (Nat.le_of_ble_eq_true rfl) (by omega) (Nat.zero_le _) (Nat.zero_le _) ?_
  refine q27_206_c s6 (Nat.le_refl _) hF ha (fun i K2 R2 M2 hi hF2 hf2 hs62 => ?_)
  have hfr2 : ck_fr q31_W 249 K R M 249 K2 R2 M2 := ck_fr_tr ck_fr_0 hf2 (by decide) (by decide)
  show gm_Wp X LX d 0 0 182 8 [some (gm_vr 1), some (gm_vi a), some (gm_vi b), some (gm_vi y), none] [] 249 K2 R2 M2 Q
  refine gm_sz (gm_p_load (pc := 8) (i := .aload_n 0) (sr := 2) (j := 0) (by decide +kernel) rfl rfl rfl) ?_
  refine gm_sz (fw_gr (pc := 9) (ix := 62) (ci := 0) (j := 10) (r := 207) (by decide +kernel) (e0k (e0F (pl_o (qL_p hF2))) (k := 1) (c := 0) (by decide +kernel)) (by decide +kernel) (by decide +kernel) (e0r (e0F (pl_o (qL_p hF2))) (k := 1) (j := 10) (r := 207) (by decide +kernel))) ?_
  refine gm_sz (gm_p_load (pc := 12) (i := .iload_n 2) (sr := 0) (j := 2) (by decide +kernel) rfl rfl rfl) ?_
  refine gm_c_virt (k := 207) (ci := 5) (mj := 27) (ix := 217) (pc := 13) (as := [gm_vi b]) (st := []) (d' := 2) (bc' := 0) (bs' := 0) (by decide +kernel) (by decide +kernel) (by decide +kernel) (by decide +kernel) (e0k (e0F (pl_o (qL_p hF2))) (k := 207) (c := 5) (by decide +kernel)).1 (e0k (e0F (pl_o (qL_p hF2))) (k := 207) (c := 5) (by decide +kernel)).2 (by decide) (by decide +kernel) (show 1 = gm_na 27 by decide +kernel) (fw_c1 (by simp [gm_sort])) (show 1 + 1 ≤ gm_ml 27 by decide +kernel) (Nat.le_of_ble_eq_true rfl) (by omega) (Nat.zero_le _) (Nat.zero_le _) ?_
  refine q27_207_c s7 (Nat.le_refl _) hF2 hb (fun j K3 R3 M3 hj hF3 hf3 hs73 => ?_)
  have hfr3 : ck_fr q31_W 249 K R M 249 K3 R3 M3 := ck_fr_tr hfr2 hf3 (by decide) (by decide)
  have hs63 : SPc 206 i M3 := sp_e hf3 (by decide) (by decide) hs62
  have bi := spc_b hs63
  have bj := spc_b hs73
  show gm_Wp X LX d 0 0 182 16 [some (gm_vr 1), some (gm_vi a), some (gm_vi b), some (gm_vi y), none] [] 249 K3 R3 M3 Q
  refine gm_sz (gm_p_load (pc := 16) (i := .iload_n 3) (sr := 0) (j := 3) (by decide +kernel) rfl rfl rfl) ?_
  refine gm_sz (gm_p_load (pc := 17) (i := .aload_n 0) (sr := 2) (j := 0) (by decide +kernel) rfl rfl rfl) ?_
  refine gm_sz (fw_gr (pc := 18) (ix := 58) (ci := 0) (j := 9) (r := 206) (by decide +kernel) (e0k (e0F (pl_o (qL_p hF3))) (k := 1) (c := 0) (by decide +kernel)) (by decide +kernel) (by decide +kernel) (e0r (e0F (pl_o (qL_p hF3))) (k := 1) (j := 9) (r := 206) (by decide +kernel))) ?_
  refine gm_sz (fw_gi (pc := 21) (ix := 444) (ci := 5) (j := 7) (x := i) (by decide +kernel) (e0k (e0F (pl_o (qL_p hF3))) (k := 206) (c := 5) (by decide +kernel)) (by decide +kernel) (by decide +kernel) hs63.2.2) ?_
  refine gm_sz (gm_p_load (pc := 24) (i := .aload_n 0) (sr := 2) (j := 0) (by decide +kernel) rfl rfl rfl) ?_
  refine gm_sz (fw_gr (pc := 25) (ix := 62) (ci := 0) (j := 10) (r := 207) (by decide +kernel) (e0k (e0F (pl_o (qL_p hF3))) (k := 1) (c := 0) (by decide +kernel)) (by decide +kernel) (by decide +kernel) (e0r (e0F (pl_o (qL_p hF3))) (k := 1) (j := 10) (r := 207) (by decide +kernel))) ?_
  refine gm_sz (fw_gi (pc := 28) (ix := 444) (ci := 5) (j := 7) (x := j) (by decide +kernel) (e0k (e0F (pl_o (qL_p hF3))) (k := 207) (c := 5) (by decide +kernel)) (by decide +kernel) (by decide +kernel) hs73.2.2) ?_
  refine gm_sz (gm_p_max (pc := 31) (ix := 396) (x := i) (y := j) (by decide +kernel) (by decide +kernel) (gm_w_id (by omega) (by omega)) (gm_w_id (by omega) (by omega)) (Nat.le_of_ble_eq_true rfl) (by omega)) ?_
  refine gm_sz (gm_p_max (pc := 34) (ix := 396) (x := y) (y := max i j) (by decide +kernel) (by decide +kernel) (gm_w_id (by omega) (by omega)) (gm_w_id (by omega) (by omega)) (Nat.le_of_ble_eq_true rfl) (by omega)) ?_
  generalize hv : max y (max i j) = v
  have bv : (0 ≤ v ∧ v ≤ 299) ∧ i ≤ v ∧ j ≤ v := by omega
  refine gm_sz (gm_p_stor (pc := 37) (i := .istore 4) (sr := 0) (j := 4) (by decide +kernel) rfl (show 5 ≤ _ from Nat.le_of_ble_eq_true rfl) rfl) ?_
  show gm_Wp X LX d 0 0 182 39 [some (gm_vr 1), some (gm_vi a), some (gm_vi b), some (gm_vi y), some (gm_vi v)] [] 249 K3 R3 M3 Q
  refine gm_sz (gm_p_load (pc := 39) (i := .aload_n 0) (sr := 2) (j := 0) (by decide +kernel) rfl rfl rfl) ?_
  refine gm_sz (fw_gr (pc := 40) (ix := 58) (ci := 0) (j := 9) (r := 206) (by decide +kernel) (e0k (e0F (pl_o (qL_p hF3))) (k := 1) (c := 0) (by decide +kernel)) (by decide +kernel) (by decide +kernel) (e0r (e0F (pl_o (qL_p hF3))) (k := 1) (j := 9) (r := 206) (by decide +kernel))) ?_
  refine gm_sz (gm_p_load (pc := 43) (i := .iload 4) (sr := 0) (j := 4) (by decide +kernel) rfl rfl rfl) ?_
  refine gm_c_virt (k := 206) (ci := 5) (mj := 148) (ix := 220) (pc := 45) (as := [gm_vi v]) (st := []) (d' := 14) (bc' := 0) (bs' := 0) (by decide +kernel) (by decide +kernel) (by decide +kernel) (by decide +kernel) (e0k (e0F (pl_o (qL_p hF3))) (k := 206) (c := 5) (by decide +kernel)).1 (e0k (e0F (pl_o (qL_p hF3))) (k := 206) (c := 5) (by decide +kernel)).2 (by decide) (by decide +kernel) (show 1 = gm_na 148 by decide +kernel) (fw_c1 (by simp [gm_sort])) (show 1 + 1 ≤ gm_ml 148 by decide +kernel) (Nat.le_of_ble_eq_true rfl) (by omega) (Nat.zero_le _) (Nat.zero_le _) ?_
  refine q148_206_c h6 (Nat.le_refl _) hF3 (r8_f h8 hfr3) hs63 bv.1 bv.2.1 (fun K4 R4 M4 hF4 hf4 hs64 => ?_)
  have hfr4 : ck_fr q31_W 249 K R M 249 K4 R4 M4 := ck_fr_tr hfr3 hf4 (by decide) (by decide)
  show gm_Wp X LX d 0 0 182 48 [some (gm_vr 1), some (gm_vi a), some (gm_vi b), some (gm_vi y), some (gm_vi v)] [] 249 K4 R4 M4 Q
  refine gm_sz (gm_p_load (pc := 48) (i := .aload_n 0) (sr := 2) (j := 0) (by decide +kernel) rfl rfl rfl) ?_
  refine gm_sz (fw_gr (pc := 49) (ix := 62) (ci := 0) (j := 10) (r := 207) (by decide +kernel) (e0k (e0F (pl_o (qL_p hF4))) (k := 1) (c := 0) (by decide +kernel)) (by decide +kernel) (by decide +kernel) (e0r (e0F (pl_o (qL_p hF4))) (k := 1) (j := 10) (r := 207) (by decide +kernel))) ?_
  refine gm_sz (gm_p_load (pc := 52) (i := .iload 4) (sr := 0) (j := 4) (by decide +kernel) rfl rfl rfl) ?_
  refine gm_c_virt (k := 207) (ci := 5) (mj := 148) (ix := 220) (pc := 54) (as := [gm_vi v]) (st := []) (d' := 14) (bc' := 0) (bs' := 0) (by decide +kernel) (by decide +kernel) (by decide +kernel) (by decide +kernel) (e0k (e0F (pl_o (qL_p hF4))) (k := 207) (c := 5) (by decide +kernel)).1 (e0k (e0F (pl_o (qL_p hF4))) (k := 207) (c := 5) (by decide +kernel)).2 (by decide) (by decide +kernel) (show 1 = gm_na 148 by decide +kernel) (fw_c1 (by simp [gm_sort])) (show 1 + 1 ≤ gm_ml 148 by decide +kernel) (Nat.le_of_ble_eq_true rfl) (by omega) (Nat.zero_le _) (Nat.zero_le _) ?_
  refine q148_207_c h7 (Nat.le_refl _) hF4 (r8_f h8 hfr4) (sp_e hf4 (by decide) (by decide) hs73) bv.1 bv.2.2 (fun K5 R5 M5 hF5 hf5 hs75 => ?_)
  show gm_Wp X LX d 0 0 182 57 [some (gm_vr 1), some (gm_vi a), some (gm_vi b), some (gm_vi y), some (gm_vi v)] [] 249 K5 R5 M5 Q
  refine gm_sz (gm_p_load (pc := 57) (i := .iload 4) (sr := 0) (j := 4) (by decide +kernel) rfl rfl rfl) ?_
  exact gm_r_int (pc := 59) (by decide +kernel) (Or.inl (by decide +kernel)) (q v _ _ _ bv.1.1 bv.1.2 hF5 (ck_fr_tr hfr4 hf5 (by decide) (by decide)) (sp_e hf5 (by decide) (by decide) hs64) hs75)
noncomputable def q183 : ck_Sum := (((1 : Nat), (0 : Nat), (0 : Nat)), (249 : Nat), [.inr (.inr (.inl (1 : Nat)))], ([], [], [((206 : Nat), (5 : Int), (5 : Int), ((-1 : Int), (300 : Int), [])), ((207 : Nat), (5 : Int), (5 : Int), ((-1 : Int), (300 : Int), []))]), ([], []), [(.inr (some (.inl ((0 : Int), (1 : Int), []))), (249 : Nat), ([], [], []))])
theorem q183_s : ck_Ok qL_O X LX 183 q183 := ck_okq (cuts := []) (f := 120) ⟨qL_nmu, ck_E1 (ck_S1 q31n_206_s (ck_S1 q31n_207_s ck_S0)) ck_E0⟩ (by decide +kernel)
theorem q183_c (hd : 1 ≤ d) (hF : gm_Fx qL_O 249 K R M) (h6 : SPc 206 i M) (h7 : SPc 207 j M) (q : ∀ v K2 R2 M2, 0 ≤ v → v ≤ 1 → gm_Fx qL_O 249 K2 R2 M2 → ck_fr ([], []) 249 K R M 249 K2 R2 M2 → Q (.inl (some (gm_vi v))) 249 K2 R2 M2) : gm_Wp X LX d 0 0 183 0 (gm_ent 183 [gm_vr 1]) [] 249 K R M Q := by
  have hσ := ck_sn_s (σ := fun _ => 0) (M := M) qL_nmu
  have b6 := (spc_b h6).1
  have b7 := (spc_b h7).1
  refine gm_Wp_mono (fun o n' K' R' M' hq => ?_) (q183_s d (ck_sn qL_O (fun _ => 0) M) [gm_vr 1] 249 K R M hd rfl ⟨_, _, rfl, rfl, rfl⟩ hσ hF ⟨(fun _ h => nomatch h), (fun _ h => nomatch h), fun q hq => ?_⟩)
  · obtain ⟨hF2, hfr, oc, hoc, ho, hn, hf⟩ := hq
    have hoc := List.mem_singleton.mp hoc
    subst hoc
    have hn : n' = 249 := hn
    subst hn
    rcases o with (_ | v) | x
    · exact absurd ho id
    · obtain ⟨y, rfl, -, y0, y1, -⟩ := ho
      exact q y _ _ _ y0 y1 hF2 hfr
    · exact absurd ho id
  · simp only [List.mem_cons, List.not_mem_nil, or_false, q183] at hq
    rcases hq with rfl | rfl
    · refine ⟨by show 206 ≤ 249; decide, fun j j1 j2 => ?_⟩
      have ej : j = 5 := Int.le_antisymm j2 j1
      subst ej
      exact ⟨(show gm_ir (M 206 5) from ⟨by omega, by omega⟩), b6.1, b6.2, fun _ h => nomatch h⟩
    · refine ⟨by show 207 ≤ 249; decide, fun j j1 j2 => ?_⟩
      have ej : j = 5 := Int.le_antisymm j2 j1
      subst ej
      exact ⟨(show gm_ir (M 207 5) from ⟨by omega, by omega⟩), b7.1, b7.2, fun _ h => nomatch h⟩
end PM31
end
/-! 7c32.fb -/
section
/-! A LETTER'S FIRST BARE YEAR, A PASSING: rows under what is kept. -/
section FB32
variable {X : Int → Int} {LX d n2 : Nat} {K K0 K2 : gm_K} {R R0 R2 : gm_R} {M M0 M2 : gm_M} {Q : gm_Q} {i j l a b y v : Int}
noncomputable def q145_W : List (Nat × Int × Int) × List (Nat × Int) := ([((200 : Nat), (6 : Int), (6 : Int)), ((204 : Nat), (0 : Int), (9 : Int)), ((205 : Nat), (0 : Int), (14849 : Int)), ((206 : Nat), (2 : Int), (8 : Int))], [])
noncomputable def q145 : ck_Sum := (((16 : Nat), (0 : Nat), (0 : Nat)), (249 : Nat), [.inr (.inr (.inl (1 : Nat))), .inl ((0 : Int), (23 : Int), [])], ([], [((3 : Nat), (8 : Int), (246 : Nat))], []), q145_W, [(.inr (some (.inl ((-1 : Int), (299 : Int), []))), (249 : Nat), ([], [], []))])
theorem r8_g (h8 : R0 3 8 = 246) (h : ck_fr q145_W 249 K0 R0 M0 249 K R M) : R 3 8 = 246 := (h.2.2.2 3 8 (by decide) (fun h => nomatch h)).trans h8
theorem q145_l (h6 : s32_206 X LX) (hd : 16 ≤ d) (h80 : R0 3 8 = 246) (hq : ∀ v K2 R2 M2, -1 ≤ v → v ≤ 299 → gm_Fx qL_O 249 K2 R2 M2 → ck_fr q145_W 249 K0 R0 M0 249 K2 R2 M2 → Q (.inl (some (gm_vi v))) 249 K2 R2 M2) : ∀ (u : Nat) (i : Int) (K : gm_K) (R : gm_R) (M : gm_M), i + (u : Int) = 300 → 0 ≤ i → SPc 206 (i - 1) M → gm_Fx qL_O 249 K R M → ck_fr q145_W 249 K0 R0 M0 249 K R M → gm_Wp X LX d 0 0 145 18 [some (gm_vr 1), some (gm_vi l), some (gm_vi i)] [] 249 K R M Q := by
  intro u
  induction u with
  | zero =>
    intro i K R M hu hi hs hF hfr
    refine gm_sz (gm_p_load (pc := 18) (i := .iload_n 2) (sr := 0) (j := 2) (by decide +kernel) rfl rfl rfl) ?_
    refine gm_sz (gm_p_const (pc := 19) (i := .sipush 300) (v := gm_vi 300) (by decide +kernel) (by decide +kernel)) ?_
    refine fw_ict (cc := .ge) (pc := 22) (off := 40) (by decide +kernel) (by decide) ⟨by omega, by omega⟩ ⟨by decide, by decide⟩ (show 300 ≤ i by omega) ?_
    refine gm_sz (gm_p_const (pc := 62) (i := .iconst (-1)) (v := gm_vi (-1)) (by decide +kernel) (by decide +kernel)) ?_
    exact gm_r_int (pc := 63) (by decide +kernel) (Or.inl (by decide +kernel)) (hq (-1) _ _ _ (Int.le_refl _) (by decide) hF hfr)
  | succ u ih =>
    intro i K R M hu hi hs hF hfr
    refine gm_sz (gm_p_load (pc := 18) (i := .iload_n 2) (sr := 0) (j := 2) (by decide +kernel) rfl rfl rfl) ?_
    refine gm_sz (gm_p_const (pc := 19) (i := .sipush 300) (v := gm_vi 300) (by decide +kernel) (by decide +kernel)) ?_
    refine fw_icf (cc := .ge) (pc := 22) (off := 40) (by decide +kernel) (by decide) ⟨by omega, by omega⟩ ⟨by decide, by decide⟩ (show ¬ 300 ≤ i by omega) ?_
    refine gm_sz (gm_p_load (pc := 25) (i := .aload_n 0) (sr := 2) (j := 0) (by decide +kernel) rfl rfl rfl) ?_
    refine gm_sz (fw_gr (pc := 26) (ix := 58) (ci := 0) (j := 9) (r := 206) (by decide +kernel) (e0k (e0F (pl_o (qL_p hF))) (k := 1) (c := 0) (by decide +kernel)) (by decide +kernel) (by decide +kernel) (e0r (e0F (pl_o (qL_p hF))) (k := 1) (j := 9) (r := 206) (by decide +kernel))) ?_
    refine gm_c_virt (k := 206) (ci := 5) (mj := 32) (ix := 447) (pc := 29) (as := []) (st := []) (d' := 13) (bc' := 0) (bs' := 0) (by decide +kernel) (by decide +kernel) (by decide +kernel) (by decide +kernel) (e0k (e0F (pl_o (qL_p hF))) (k := 206) (c := 5) (by decide +kernel)).1 (e0k (e0F (pl_o (qL_p hF))) (k := 206) (c := 5) (by decide +kernel)).2 (by decide) (by decide +kernel) (show 0 = gm_na 32 by decide +kernel) fw_c0 (show 0 + 1 ≤ gm_ml 32 by decide +kernel) (Nat.le_of_ble_eq_true rfl) (by omega) (Nat.zero_le _) (Nat.zero_le _) ?_
    refine q32_206_c h6 (Nat.le_refl _) hF (r8_g h80 hfr) hs (by omega) (fun K2 R2 M2 hF2 hf2 hs2 => ?_)
    have hfr2 : ck_fr q145_W 249 K0 R0 M0 249 K2 R2 M2 := ck_fr_tr hfr hf2 (by decide) (by decide)
    show gm_Wp X LX d 0 0 145 32 [some (gm_vr 1), some (gm_vi l), some (gm_vi i)] [] 249 K2 R2 M2 Q
    refine gm_sz (gm_p_load (pc := 32) (i := .aload_n 0) (sr := 2) (j := 0) (by decide +kernel) rfl rfl rfl) ?_
    refine gm_sz (fw_gr (pc := 33) (ix := 58) (ci := 0) (j := 9) (r := 206) (by decide +kernel) (e0k (e0F (pl_o (qL_p hF2))) (k := 1) (c := 0) (by decide +kernel)) (by decide +kernel) (by decide +kernel) (e0r (e0F (pl_o (qL_p hF2))) (k := 1) (j := 9) (r := 206) (by decide +kernel))) ?_
    refine gm_c_virt (k := 206) (ci := 5) (mj := 31) (ix := 411) (pc := 36) (as := []) (st := []) (d' := 0) (bc' := 0) (bs' := 0) (by decide +kernel) (by decide +kernel) (by decide +kernel) (by decide +kernel) (e0k (e0F (pl_o (qL_p hF2))) (k := 206) (c := 5) (by decide +kernel)).1 (e0k (e0F (pl_o (qL_p hF2))) (k := 206) (c := 5) (by decide +kernel)).2 (by decide) (by decide +kernel) (show 0 = gm_na 31 by decide +kernel) fw_c0 (show 0 + 1 ≤ gm_ml 31 by decide +kernel) (Nat.le_of_ble_eq_true rfl) (by omega) (Nat.zero_le _) (Nat.zero_le _) ?_
    refine q31_206_c hF2 (spc_b hs2).1 (fun v K3 R3 M3 hv hF3 hf3 => ?_)
    have hfr3 : ck_fr q145_W 249 K0 R0 M0 249 K3 R3 M3 := ck_fr_tr hfr2 hf3 (by decide) (by decide)
    have hs3 : SPc 206 (i - 1 + 1) M3 := sp0_206 hf3 hs2
    show gm_Wp X LX d 0 0 145 39 [some (gm_vr 1), some (gm_vi l), some (gm_vi i)] [gm_vi v] 249 K3 R3 M3 Q
    refine fw_if (cc := .eq) (pc := 39) (off := 5) (by decide +kernel) (by decide) (by rcases hv with rfl | rfl <;> exact ⟨by decide, by decide⟩) (fun hp => ?_) (fun hp => ?_)
    · refine gm_sz (gm_p_load (pc := 44) (i := .aload_n 0) (sr := 2) (j := 0) (by decide +kernel) rfl rfl rfl) ?_
      refine gm_sz (fw_gr (pc := 45) (ix := 58) (ci := 0) (j := 9) (r := 206) (by decide +kernel) (e0k (e0F (pl_o (qL_p hF3))) (k := 1) (c := 0) (by decide +kernel)) (by decide +kernel) (by decide +kernel) (e0r (e0F (pl_o (qL_p hF3))) (k := 1) (j := 9) (r := 206) (by decide +kernel))) ?_
      refine gm_sz (fw_gi (pc := 48) (ix := 209) (ci := 5) (j := 6) (x := M3 206 6) (by decide +kernel) (e0k (e0F (pl_o (qL_p hF3))) (k := 206) (c := 5) (by decide +kernel)) (by decide +kernel) (by decide +kernel) rfl) ?_
      refine fw_if (cc := .ne) (pc := 51) (off := 5) (by decide +kernel) (by decide) ((gm_tyr_s (pl_o (qL_p hF3)) (show gm_tyr p2_O 206 6 6 = some (0, 99) by decide +kernel)).2 6 (Int.le_refl _) (Int.le_refl _)).1 (fun hp2 => ?_) (fun hp2 => ?_)
      · refine gm_sz (gm_p_iinc (pc := 56) (j := 2) (z := 1) (by decide +kernel) rfl) ?_
        refine gm_sz (gm_p_goto (pc := 59) (off := (-41)) (by decide +kernel) (by decide)) ?_
        exact ih (i + 1) K3 R3 M3 (by omega) (by omega) (by rw [show i + 1 - 1 = i - 1 + 1 by omega]; exact hs3) hF3 hfr3
      · refine gm_sz (gm_p_load (pc := 54) (i := .iload_n 2) (sr := 0) (j := 2) (by decide +kernel) rfl rfl rfl) ?_
        exact gm_r_int (pc := 55) (by decide +kernel) (Or.inl (by decide +kernel)) (hq i _ _ _ (by omega) (by omega) hF3 hfr3)
    · refine gm_sz (gm_p_const (pc := 42) (i := .iconst (-1)) (v := gm_vi (-1)) (by decide +kernel) (by decide +kernel)) ?_
      exact gm_r_int (pc := 43) (by decide +kernel) (Or.inl (by decide +kernel)) (hq (-1) _ _ _ (Int.le_refl _) (by decide) hF3 hfr3)
theorem q145_s (h6 : s32_206 X LX) (s6 : ck_Ok qL_O X LX 27 q27_206) : ck_Ok qL_O X LX 145 q145 := by
  intro d σ vs n K R M hd hn hvs hσ hF hf
  obtain ⟨v0, w0, rfl, g0, v1, w1, rfl, ⟨l, rfl, hl, l0, l1, -⟩, g4⟩ := hvs
  have g4 : w1 = [] := g4
  subst g4
  have g0 : v0 = gm_vr 1 := g0
  subst g0
  have l0 : (0 : Int) ≤ l := l0
  have l1 : l ≤ (23 : Int) := l1
  have hn : n = 249 := hn
  subst hn
  have hd : 16 ≤ d := hd
  have h8 : R 3 8 = 246 := (hf.2.1 (3, 8, 246) List.mem_cons_self).2
  refine gm_sz (gm_p_load (pc := 0) (i := .aload_n 0) (sr := 2) (j := 0) (by decide +kernel) rfl rfl rfl) ?_
  refine gm_sz (fw_gr (pc := 1) (ix := 58) (ci := 0) (j := 9) (r := 206) (by decide +kernel) (e0k (e0F (pl_o (qL_p hF))) (k := 1) (c := 0) (by decide +kernel)) (by decide +kernel) (by decide +kernel) (e0r (e0F (pl_o (qL_p hF))) (k := 1) (j := 9) (r := 206) (by decide +kernel))) ?_
  refine gm_sz (gm_p_load (pc := 4) (i := .iload_n 1) (sr := 0) (j := 1) (by decide +kernel) rfl rfl rfl) ?_
  refine gm_c_virt (k := 206) (ci := 5) (mj := 27) (ix := 217) (pc := 5) (as := [gm_vi l]) (st := []) (d' := 2) (bc' := 0) (bs' := 0) (by decide +kernel) (by decide +kernel) (by decide +kernel) (by decide +kernel) (e0k (e0F (pl_o (qL_p hF))) (k := 206) (c := 5) (by decide +kernel)).1 (e0k (e0F (pl_o (qL_p hF))) (k := 206) (c := 5) (by decide +kernel)).2 (by decide) (by decide +kernel) (show 1 = gm_na 27 by decide +kernel) (fw_c1 (by simp [gm_sort])) (show 1 + 1 ≤ gm_ml 27 by decide +kernel) (Nat.le_of_ble_eq_true rfl) (by omega) (Nat.zero_le _) (Nat.zero_le _) ?_
  refine q27_206_c s6 (Nat.le_refl _) hF ⟨l0, l1⟩ (fun i K2 R2 M2 hi hF2 hf2 hs2 => ?_)
  have hfr2 : ck_fr q145_W 249 K R M 249 K2 R2 M2 := ck_fr_tr ck_fr_0 hf2 (by decide) (by decide)
  have hb := spc_b hs2
  show gm_Wp X LX d 0 0 145 8 [some (gm_vr 1), some (gm_vi l), none] [] 249 K2 R2 M2 (ck_Q qL_O σ q145.2.2.2.2.1 249 K R M q145.2.2.2.2.2)
  refine gm_sz (gm_p_load (pc := 8) (i := .aload_n 0) (sr := 2) (j := 0) (by decide +kernel) rfl rfl rfl) ?_
  refine gm_sz (fw_gr (pc := 9) (ix := 58) (ci := 0) (j := 9) (r := 206) (by decide +kernel) (e0k (e0F (pl_o (qL_p hF2))) (k := 1) (c := 0) (by decide +kernel)) (by decide +kernel) (by decide +kernel) (e0r (e0F (pl_o (qL_p hF2))) (k := 1) (j := 9) (r := 206) (by decide +kernel))) ?_
  refine gm_sz (fw_gi (pc := 12) (ix := 444) (ci := 5) (j := 7) (x := i) (by decide +kernel) (e0k (e0F (pl_o (qL_p hF2))) (k := 206) (c := 5) (by decide +kernel)) (by decide +kernel) (by decide +kernel) hs2.2.2) ?_
  refine gm_sz (gm_p_const (pc := 15) (i := .iconst 1) (v := gm_vi 1) (by decide +kernel) (by decide +kernel)) ?_
  refine gm_sz (gm_p_bin (pc := 16) (i := .iadd) (f := fun x y => x + y) (by decide +kernel) rfl) ?_
  refine gm_sz (gm_p_stor (pc := 17) (i := .istore_n 2) (sr := 0) (j := 2) (by decide +kernel) rfl (show 3 ≤ _ from Nat.le_of_ble_eq_true rfl) rfl) ?_
  exact q145_l h6 hd h8 (fun v K3 R3 M3 v0 v1 hF3 hfr3 => ⟨hF3, hfr3, _, List.mem_cons_self, ⟨v, rfl, ⟨by omega, by omega⟩, v0, v1, (fun _ h => nomatch h)⟩, rfl, (fun _ h => nomatch h), (fun _ h => nomatch h), (fun _ h => nomatch h)⟩) (300 - (i + 1)).toNat (i + 1) K2 R2 M2 (by omega) (by omega) (by rw [show i + 1 - 1 = i by omega]; exact hs2) hF2 hfr2
noncomputable def q181 : ck_Sum := (((18 : Nat), (0 : Nat), (0 : Nat)), (249 : Nat), [.inr (.inr (.inl (1 : Nat))), .inl ((0 : Int), (23 : Int), []), .inl ((0 : Int), (23 : Int), [])], ([], [((3 : Nat), (8 : Int), (246 : Nat))], []), q31_W, [(.inr (some (.inl ((0 : Int), (1 : Int), []))), (249 : Nat), ([], [], []))])
theorem q181_l (h6 : s32_206 X LX) (h7 : s32_207 X LX) (hd : 18 ≤ d) (h80 : R0 3 8 = 246) (hq : ∀ v K2 R2 M2, 0 ≤ v → v ≤ 1 → gm_Fx qL_O 249 K2 R2 M2 → ck_fr q31_W 249 K0 R0 M0 249 K2 R2 M2 → Q (.inl (some (gm_vi v))) 249 K2 R2 M2) : ∀ (u : Nat) (i : Int) (K : gm_K) (R : gm_R) (M : gm_M), i + (u : Int) = 300 → 1 ≤ i → SPc 206 (i - 1) M → SPc 207 (i - 1) M → gm_Fx qL_O 249 K R M → ck_fr q31_W 249 K0 R0 M0 249 K R M → gm_Wp X LX d 0 0 181 39 [some (gm_vr 1), some (gm_vi a), some (gm_vi b), some (gm_vi v), some (gm_vi i)] [] 249 K R M Q := by
  intro u
  induction u with
  | zero =>
    intro i K R M hu hi hs hs7 hF hfr
    refine gm_sz (gm_p_load (pc := 39) (i := .iload 4) (sr := 0) (j := 4) (by decide +kernel) rfl rfl rfl) ?_
    refine gm_sz (gm_p_const (pc := 41) (i := .sipush 300) (v := gm_vi 300) (by decide +kernel) (by decide +kernel)) ?_
    refine fw_ict (cc := .ge) (pc := 44) (off := 41) (by decide +kernel) (by decide) ⟨by omega, by omega⟩ ⟨by decide, by decide⟩ (show 300 ≤ i by omega) ?_
    refine gm_sz (gm_p_const (pc := 85) (i := .iconst 0) (v := gm_vi 0) (by decide +kernel) (by decide +kernel)) ?_
    exact gm_r_int (pc := 86) (by decide +kernel) (Or.inr ⟨(by decide +kernel), Or.inl rfl⟩) (hq 0 _ _ _ (Int.le_refl _) (by decide) hF hfr)
  | succ u ih =>
    intro i K R M hu hi hs hs7 hF hfr
    refine gm_sz (gm_p_load (pc := 39) (i := .iload 4) (sr := 0) (j := 4) (by decide +kernel) rfl rfl rfl) ?_
    refine gm_sz (gm_p_const (pc := 41) (i := .sipush 300) (v := gm_vi 300) (by decide +kernel) (by decide +kernel)) ?_
    refine fw_icf (cc := .ge) (pc := 44) (off := 41) (by decide +kernel) (by decide) ⟨by omega, by omega⟩ ⟨by decide, by decide⟩ (show ¬ 300 ≤ i by omega) ?_
    refine gm_sz (gm_p_load (pc := 47) (i := .aload_n 0) (sr := 2) (j := 0) (by decide +kernel) rfl rfl rfl) ?_
    refine gm_c_virt (k := 1) (ci := 0) (mj := 184) (ix := 332) (pc := 48) (as := []) (st := []) (d' := 14) (bc' := 0) (bs' := 0) (by decide +kernel) (by decide +kernel) (by decide +kernel) (by decide +kernel) (e0k (e0F (pl_o (qL_p hF))) (k := 1) (c := 0) (by decide +kernel)).1 (e0k (e0F (pl_o (qL_p hF))) (k := 1) (c := 0) (by decide +kernel)).2 (by decide) (by decide +kernel) (show 0 = gm_na 184 by decide +kernel) fw_c0 (show 0 + 1 ≤ gm_ml 184 by decide +kernel) (Nat.le_of_ble_eq_true rfl) (by omega) (Nat.zero_le _) (Nat.zero_le _) ?_
    refine q184_c h6 h7 (Nat.le_refl _) hF (r8_f h80 hfr) hs hs7 (by omega) (by omega) (fun K2 R2 M2 hF2 hf2 hs62 hs72 => ?_)
    have hfr2 : ck_fr q31_W 249 K0 R0 M0 249 K2 R2 M2 := ck_fr_tr hfr hf2 (by decide) (by decide)
    show gm_Wp X LX d 0 0 181 51 [some (gm_vr 1), some (gm_vi a), some (gm_vi b), some (gm_vi v), some (gm_vi i)] [] 249 K2 R2 M2 Q
    refine gm_sz (gm_p_load (pc := 51) (i := .aload_n 0) (sr := 2) (j := 0) (by decide +kernel) rfl rfl rfl) ?_
    refine gm_c_virt (k := 1) (ci := 0) (mj := 183) (ix := 329) (pc := 52) (as := []) (st := []) (d' := 1) (bc' := 0) (bs' := 0) (by decide +kernel) (by decide +kernel) (by decide +kernel) (by decide +kernel) (e0k (e0F (pl_o (qL_p hF2))) (k := 1) (c := 0) (by decide +kernel)).1 (e0k (e0F (pl_o (qL_p hF2))) (k := 1) (c := 0) (by decide +kernel)).2 (by decide) (by decide +kernel) (show 0 = gm_na 183 by decide +kernel) fw_c0 (show 0 + 1 ≤ gm_ml 183 by decide +kernel) (Nat.le_of_ble_eq_true rfl) (by omega) (Nat.zero_le _) (Nat.zero_le _) ?_
    refine q183_c (Nat.le_refl _) hF2 hs62 hs72 (fun t K3 R3 M3 t0 t1 hF3 hf3 => ?_)
    have hfr3 : ck_fr q31_W 249 K0 R0 M0 249 K3 R3 M3 := ck_fr_tr hfr2 hf3 (by decide) (by decide)
    have hs63 : SPc 206 (i - 1 + 1) M3 := sp_e hf3 (by decide) (by decide) hs62
    have hs73 : SPc 207 (i - 1 + 1) M3 := sp_e hf3 (by decide) (by decide) hs72
    have b6 := (spc_b hs63).1
    have b7 := (spc_b hs73).1
    show gm_Wp X LX d 0 0 181 55 [some (gm_vr 1), some (gm_vi a), some (gm_vi b), some (gm_vi v), some (gm_vi i)] [gm_vi t] 249 K3 R3 M3 Q
    refine fw_if (cc := .ne) (pc := 55) (off := 5) (by decide +kernel) (by decide) ⟨by omega, by omega⟩ (fun hp => ?_) (fun hp => ?_)
    · refine gm_sz (gm_p_load (pc := 60) (i := .aload_n 0) (sr := 2) (j := 0) (by decide +kernel) rfl rfl rfl) ?_
      refine gm_sz (fw_gr (pc := 61) (ix := 58) (ci := 0) (j := 9) (r := 206) (by decide +kernel) (e0k (e0F (pl_o (qL_p hF3))) (k := 1) (c := 0) (by decide +kernel)) (by decide +kernel) (by decide +kernel) (e0r (e0F (pl_o (qL_p hF3))) (k := 1) (j := 9) (r := 206) (by decide +kernel))) ?_
      refine gm_sz (fw_gi (pc := 64) (ix := 223) (ci := 5) (j := 5) (x := M3 206 5) (by decide +kernel) (e0k (e0F (pl_o (qL_p hF3))) (k := 206) (c := 5) (by decide +kernel)) (by decide +kernel) (by decide +kernel) rfl) ?_
      refine gm_sz (gm_p_load (pc := 67) (i := .aload_n 0) (sr := 2) (j := 0) (by decide +kernel) rfl rfl rfl) ?_
      refine gm_sz (fw_gr (pc := 68) (ix := 62) (ci := 0) (j := 10) (r := 207) (by decide +kernel) (e0k (e0F (pl_o (qL_p hF3))) (k := 1) (c := 0) (by decide +kernel)) (by decide +kernel) (by decide +kernel) (e0r (e0F (pl_o (qL_p hF3))) (k := 1) (j := 10) (r := 207) (by decide +kernel))) ?_
      refine gm_sz (fw_gi (pc := 71) (ix := 223) (ci := 5) (j := 5) (x := M3 207 5) (by decide +kernel) (e0k (e0F (pl_o (qL_p hF3))) (k := 207) (c := 5) (by decide +kernel)) (by decide +kernel) (by decide +kernel) rfl) ?_
      refine fw_ic (cc := .le) (pc := 74) (off := 5) (by decide +kernel) (by decide) ⟨by omega, by omega⟩ ⟨by omega, by omega⟩ (fun hp2 => ?_) (fun hp2 => ?_)
      · refine gm_sz (gm_p_iinc (pc := 79) (j := 4) (z := 1) (by decide +kernel) rfl) ?_
        refine gm_sz (gm_p_goto (pc := 82) (off := (-43)) (by decide +kernel) (by decide)) ?_
        exact ih (i + 1) K3 R3 M3 (by omega) (by omega) (by rw [show i + 1 - 1 = i - 1 + 1 by omega]; exact hs63) (by rw [show i + 1 - 1 = i - 1 + 1 by omega]; exact hs73) hF3 hfr3
      · refine gm_sz (gm_p_const (pc := 77) (i := .iconst 1) (v := gm_vi 1) (by decide +kernel) (by decide +kernel)) ?_
        exact gm_r_int (pc := 78) (by decide +kernel) (Or.inr ⟨(by decide +kernel), Or.inr rfl⟩) (hq 1 _ _ _ (by decide) (Int.le_refl _) hF3 hfr3)
    · refine gm_sz (gm_p_const (pc := 58) (i := .iconst 0) (v := gm_vi 0) (by decide +kernel) (by decide +kernel)) ?_
      exact gm_r_int (pc := 59) (by decide +kernel) (Or.inr ⟨(by decide +kernel), Or.inl rfl⟩) (hq 0 _ _ _ (Int.le_refl _) (by decide) hF3 hfr3)
theorem q181_s (h6 : s32_206 X LX) (h7 : s32_207 X LX) (s6 : ck_Ok qL_O X LX 27 q27_206) (s7 : ck_Ok qL_O X LX 27 q27_207) : ck_Ok qL_O X LX 181 q181 := by
  intro d σ vs n K R M hd hn hvs hσ hF hf
  obtain ⟨v0, w0, rfl, g0, v1, w1, rfl, ⟨a, rfl, ha, a0, a1, -⟩, v2, w2, rfl, ⟨b, rfl, hb, b0, b1, -⟩, g4⟩ := hvs
  have g4 : w2 = [] := g4
  subst g4
  have g0 : v0 = gm_vr 1 := g0
  subst g0
  have a0 : (0 : Int) ≤ a := a0
  have a1 : a ≤ (23 : Int) := a1
  have b0 : (0 : Int) ≤ b := b0
  have b1 : b ≤ (23 : Int) := b1
  have hn : n = 249 := hn
  subst hn
  have hd : 18 ≤ d := hd
  have h8 : R 3 8 = 246 := (hf.2.1 (3, 8, 246) List.mem_cons_self).2
  have hq : ∀ v K2 R2 M2, 0 ≤ v → v ≤ 1 → gm_Fx qL_O 249 K2 R2 M2 → ck_fr q31_W 249 K R M 249 K2 R2 M2 → (ck_Q qL_O σ q181.2.2.2.2.1 249 K R M q181.2.2.2.2.2) (.inl (some (gm_vi v))) 249 K2 R2 M2 := (fun t K9 R9 M9 t0 t1 hF9 hfr9 => ⟨hF9, hfr9, _, List.mem_cons_self, ⟨t, rfl, ⟨by omega, by omega⟩, t0, t1, (fun _ h => nomatch h)⟩, rfl, (fun _ h => nomatch h), (fun _ h => nomatch h), (fun _ h => nomatch h)⟩)
  refine gm_sz (gm_p_load (pc := 0) (i := .aload_n 0) (sr := 2) (j := 0) (by decide +kernel) rfl rfl rfl) ?_
  refine gm_sz (gm_p_load (pc := 1) (i := .iload_n 1) (sr := 0) (j := 1) (by decide +kernel) rfl rfl rfl) ?_
  refine gm_sz (gm_p_load (pc := 2) (i := .iload_n 2) (sr := 0) (j := 2) (by decide +kernel) rfl rfl rfl) ?_
  refine gm_sz (gm_p_const (pc := 3) (i := .iconst 0) (v := gm_vi 0) (by decide +kernel) (by decide +kernel)) ?_
  refine gm_c_virt (k := 1) (ci := 0) (mj := 182) (ix := 326) (pc := 4) (as := [gm_vi a, gm_vi b, gm_vi 0]) (st := []) (d' := 15) (bc' := 0) (bs' := 0) (by decide +kernel) (by decide +kernel) (by decide +kernel) (by decide +kernel) (e0k (e0F (pl_o (qL_p hF))) (k := 1) (c := 0) (by decide +kernel)).1 (e0k (e0F (pl_o (qL_p hF))) (k := 1) (c := 0) (by decide +kernel)).2 (by decide) (by decide +kernel) (show 3 = gm_na 182 by decide +kernel) (fun v hv => by simp only [List.mem_cons, List.not_mem_nil, or_false] at hv; rcases hv with rfl | rfl | rfl <;> simp [gm_sort]) (show 3 + 1 ≤ gm_ml 182 by decide +kernel) (Nat.le_of_ble_eq_true rfl) (by omega) (Nat.zero_le _) (Nat.zero_le _) ?_
  refine q182_c h6 h7 s6 s7 (Nat.le_refl _) hF h8 ⟨a0, a1⟩ ⟨b0, b1⟩ ⟨by decide, by decide⟩ (fun v K2 R2 M2 v0 v1 hF2 hfr2 hs62 hs72 => ?_)
  show gm_Wp X LX d 0 0 181 7 [some (gm_vr 1), some (gm_vi a), some (gm_vi b), none, none] [gm_vi v] 249 K2 R2 M2 (ck_Q qL_O σ q181.2.2.2.2.1 249 K R M q181.2.2.2.2.2)
  refine gm_sz (gm_p_stor (pc := 7) (i := .istore_n 3) (sr := 0) (j := 3) (by decide +kernel) rfl (show 4 ≤ _ from Nat.le_of_ble_eq_true rfl) rfl) ?_
  refine gm_sz (gm_p_load (pc := 8) (i := .aload_n 0) (sr := 2) (j := 0) (by decide +kernel) rfl rfl rfl) ?_
  refine gm_c_virt (k := 1) (ci := 0) (mj := 183) (ix := 329) (pc := 9) (as := []) (st := []) (d' := 1) (bc' := 0) (bs' := 0) (by decide +kernel) (by decide +kernel) (by decide +kernel) (by decide +kernel) (e0k (e0F (pl_o (qL_p hF2))) (k := 1) (c := 0) (by decide +kernel)).1 (e0k (e0F (pl_o (qL_p hF2))) (k := 1) (c := 0) (by decide +kernel)).2 (by decide) (by decide +kernel) (show 0 = gm_na 183 by decide +kernel) fw_c0 (show 0 + 1 ≤ gm_ml 183 by decide +kernel) (Nat.le_of_ble_eq_true rfl) (by omega) (Nat.zero_le _) (Nat.zero_le _) ?_
  refine q183_c (Nat.le_refl _) hF2 hs62 hs72 (fun t K3 R3 M3 t0 t1 hF3 hf3 => ?_)
  have hfr3 : ck_fr q31_W 249 K R M 249 K3 R3 M3 := ck_fr_tr hfr2 hf3 (by decide) (by decide)
  have hs63 : SPc 206 v M3 := sp_e hf3 (by decide) (by decide) hs62
  have hs73 : SPc 207 v M3 := sp_e hf3 (by decide) (by decide) hs72
  have b6 := (spc_b hs63).1
  have b7 := (spc_b hs73).1
  show gm_Wp X LX d 0 0 181 12 [some (gm_vr 1), some (gm_vi a), some (gm_vi b), some (gm_vi v), none] [gm_vi t] 249 K3 R3 M3 (ck_Q qL_O σ q181.2.2.2.2.1 249 K R M q181.2.2.2.2.2)
  refine fw_if (cc := .eq) (pc := 12) (off := 20) (by decide +kernel) (by decide) ⟨by omega, by omega⟩ (fun hp => ?_) (fun hp => ?_)
  · refine gm_sz (gm_p_const (pc := 32) (i := .iconst 0) (v := gm_vi 0) (by decide +kernel) (by decide +kernel)) ?_
    exact gm_r_int (pc := 33) (by decide +kernel) (Or.inr ⟨(by decide +kernel), Or.inl rfl⟩) (hq 0 _ _ _ (Int.le_refl _) (by decide) hF3 hfr3)
  · refine gm_sz (gm_p_load (pc := 15) (i := .aload_n 0) (sr := 2) (j := 0) (by decide +kernel) rfl rfl rfl) ?_
    refine gm_sz (fw_gr (pc := 16) (ix := 58) (ci := 0) (j := 9) (r := 206) (by decide +kernel) (e0k (e0F (pl_o (qL_p hF3))) (k := 1) (c := 0) (by decide +kernel)) (by decide +kernel) (by decide +kernel) (e0r (e0F (pl_o (qL_p hF3))) (k := 1) (j := 9) (r := 206) (by decide +kernel))) ?_
    refine gm_sz (fw_gi (pc := 19) (ix := 223) (ci := 5) (j := 5) (x := M3 206 5) (by decide +kernel) (e0k (e0F (pl_o (qL_p hF3))) (k := 206) (c := 5) (by decide +kernel)) (by decide +kernel) (by decide +kernel) rfl) ?_
    refine gm_sz (gm_p_load (pc := 22) (i := .aload_n 0) (sr := 2) (j := 0) (by decide +kernel) rfl rfl rfl) ?_
    refine gm_sz (fw_gr (pc := 23) (ix := 62) (ci := 0) (j := 10) (r := 207) (by decide +kernel) (e0k (e0F (pl_o (qL_p hF3))) (k := 1) (c := 0) (by decide +kernel)) (by decide +kernel) (by decide +kernel) (e0r (e0F (pl_o (qL_p hF3))) (k := 1) (j := 10) (r := 207) (by decide +kernel))) ?_
    refine gm_sz (fw_gi (pc := 26) (ix := 223) (ci := 5) (j := 5) (x := M3 207 5) (by decide +kernel) (e0k (e0F (pl_o (qL_p hF3))) (k := 207) (c := 5) (by decide +kernel)) (by decide +kernel) (by decide +kernel) rfl) ?_
    refine fw_ic (cc := .lt) (pc := 29) (off := 5) (by decide +kernel) (by decide) ⟨by omega, by omega⟩ ⟨by omega, by omega⟩ (fun hp2 => ?_) (fun hp2 => ?_)
    · refine gm_sz (gm_p_load (pc := 34) (i := .iload_n 3) (sr := 0) (j := 3) (by decide +kernel) rfl rfl rfl) ?_
      refine gm_sz (gm_p_const (pc := 35) (i := .iconst 1) (v := gm_vi 1) (by decide +kernel) (by decide +kernel)) ?_
      refine gm_sz (gm_p_bin (pc := 36) (i := .iadd) (f := fun x y => x + y) (by decide +kernel) rfl) ?_
      refine gm_sz (gm_p_stor (pc := 37) (i := .istore 4) (sr := 0) (j := 4) (by decide +kernel) rfl (show 5 ≤ _ from Nat.le_of_ble_eq_true rfl) rfl) ?_
      exact q181_l h6 h7 hd h8 hq (300 - (v + 1)).toNat (v + 1) K3 R3 M3 (by omega) (by omega) (by rw [show v + 1 - 1 = v by omega]; exact hs63) (by rw [show v + 1 - 1 = v by omega]; exact hs73) hF3 hfr3
    · refine gm_sz (gm_p_const (pc := 32) (i := .iconst 0) (v := gm_vi 0) (by decide +kernel) (by decide +kernel)) ?_
      exact gm_r_int (pc := 33) (by decide +kernel) (Or.inr ⟨(by decide +kernel), Or.inl rfl⟩) (hq 0 _ _ _ (Int.le_refl _) (by decide) hF3 hfr3)
end FB32
end
/-! 7c33.me -/
section
/-! A MEETING: its row under what is kept. -/
section ME33
variable {X : Int → Int} {LX d n2 : Nat} {K K0 K2 : gm_K} {R R0 R2 : gm_R} {M M0 M2 : gm_M} {Q : gm_Q} {i j l a b y v : Int}
/-- a call that writes nothing and takes nothing for granted, by its row -/
noncomputable def pu_k (S : ck_Sum) : Bool := S.2.1 == 249 && (S.2.2.2.1.1.isEmpty && (S.2.2.2.1.2.1.isEmpty && (S.2.2.2.1.2.2.isEmpty && (S.2.2.2.2.1.1.isEmpty && (S.2.2.2.2.1.2.isEmpty && S.2.2.2.2.2.all fun oc => oc.2.1 == 249)))))
theorem pu_c {S : ck_Sum} {mj : Nat} {vs : List gm_V} (hS : ck_Ok qL_O X LX mj S) (hp : pu_k S = true) (hd : S.1.1 ≤ d) (hvs : ∀ σ, ck_gas σ S.2.2.1 vs) (hF : gm_Fx qL_O 249 K R M) (q : ∀ (σ : Nat → Int) o K2 R2 M2, (∃ oc ∈ S.2.2.2.2.2, ck_ho σ oc.1 o) → gm_Fx qL_O 249 K2 R2 M2 → ck_fr ([], []) 249 K R M 249 K2 R2 M2 → Q o 249 K2 R2 M2) : gm_Wp X LX d S.1.2.1 S.1.2.2 mj 0 (gm_ent mj vs) [] 249 K R M Q := by
  simp only [pu_k, Bool.and_eq_true, beq_iff_eq, List.isEmpty_iff] at hp
  obtain ⟨p1, p2, p3, p4, p5, p6, p7⟩ := hp
  have hσ := ck_sn_s (σ := fun _ => 0) (M := M) qL_nmu
  refine gm_Wp_mono (fun o n' K' R' M' hq => ?_) (hS d (ck_sn qL_O (fun _ => 0) M) vs 249 K R M hd p1.symm (hvs _) hσ hF ⟨(fun q hq => by rw [p2] at hq; exact absurd hq (fun h => nomatch h)), (fun q hq => by rw [p3] at hq; exact absurd hq (fun h => nomatch h)), (fun q hq => by rw [p4] at hq; exact absurd hq (fun h => nomatch h))⟩)
  obtain ⟨hF2, hfr, oc, hoc, ho, hn, -⟩ := hq
  have hn2 := List.all_eq_true.mp p7 oc hoc
  have hn : n' = 249 := hn.trans (beq_iff_eq.mp hn2)
  subst hn
  refine q _ _ _ _ _ ⟨oc, hoc, ho⟩ hF2 ⟨hfr.1, hfr.2.1, fun k j hk hw => hfr.2.2.1 k j hk (fun w hw9 => by rw [p5] at hw9; exact absurd hw9 (fun h => nomatch h)), fun k j hk hw => hfr.2.2.2 k j hk (by rw [p6]; exact fun h => nomatch h)⟩
noncomputable def q143 : ck_Sum := (((7 : Nat), (1 : Nat), (6 : Nat)), (249 : Nat), [.inr (.inr (.inl (1 : Nat))), .inl ((0 : Int), (23 : Int), [])], ([], [], []), ([], []), [(.inl (3 : Nat), (249 : Nat), ([], [], [])), (.inr none, (249 : Nat), ([], [], []))])
noncomputable def q153 : ck_Sum := (((6 : Nat), (1 : Nat), (6 : Nat)), (249 : Nat), [.inr (.inr (.inl (1 : Nat))), .inl ((0 : Int), (23 : Int), []), .inl ((0 : Int), (23 : Int), [])], ([], [], []), ([], []), [(.inr none, (249 : Nat), ([], [], [])), (.inl (0 : Nat), (249 : Nat), ([], [], []))])
noncomputable def q180 : ck_Sum := (((1 : Nat), (0 : Nat), (0 : Nat)), (249 : Nat), [.inr (.inr (.inl (1 : Nat))), .inl ((0 : Int), (23 : Int), []), .inl ((0 : Int), (23 : Int), [])], ([], [], []), ([], []), [(.inr (some (.inl (ck_one 0))), (249 : Nat), ([], [], [])), (.inr (some (.inl (ck_one 1))), (249 : Nat), ([], [], []))])
theorem q143_c (hS : ck_Ok qL_O X LX 143 q143) (hd : 7 ≤ d) (hF : gm_Fx qL_O 249 K R M) (ha : 0 ≤ a ∧ a ≤ 23) (q : ∀ o K2 R2 M2, (o = .inr 3 ∨ o = .inl none) → gm_Fx qL_O 249 K2 R2 M2 → ck_fr ([], []) 249 K R M 249 K2 R2 M2 → Q o 249 K2 R2 M2) : gm_Wp X LX d 1 6 143 0 (gm_ent 143 [gm_vr 1, gm_vi a]) [] 249 K R M Q :=
  pu_c (S := q143) hS (by decide) hd (fun σ => ⟨_, _, rfl, rfl, _, _, rfl, ⟨a, rfl, ⟨by omega, by omega⟩, ha.1, ha.2, fun _ h => nomatch h⟩, rfl⟩) hF (fun σ o K2 R2 M2 ho hF2 hf2 => by
    obtain ⟨oc, hoc, ho⟩ := ho
    have hoc : oc ∈ [_, _] := hoc
    simp only [List.mem_cons, List.not_mem_nil, or_false] at hoc
    rcases hoc with rfl | rfl
    · rcases o with (_ | v) | x
      · exact absurd ho id
      · exact absurd ho id
      · have ho : 3 = x := ho
        subst ho
        exact q _ _ _ _ (Or.inl rfl) hF2 hf2
    · rcases o with (_ | v) | x
      · exact q _ _ _ _ (Or.inr rfl) hF2 hf2
      · exact absurd ho id
      · exact absurd ho id)
theorem q153_c (hS : ck_Ok qL_O X LX 153 q153) (hd : 6 ≤ d) (hF : gm_Fx qL_O 249 K R M) (ha : 0 ≤ a ∧ a ≤ 23) (hb : 0 ≤ b ∧ b ≤ 23) (q : ∀ o K2 R2 M2, (o = .inr 0 ∨ o = .inl none) → gm_Fx qL_O 249 K2 R2 M2 → ck_fr ([], []) 249 K R M 249 K2 R2 M2 → Q o 249 K2 R2 M2) : gm_Wp X LX d 1 6 153 0 (gm_ent 153 [gm_vr 1, gm_vi a, gm_vi b]) [] 249 K R M Q :=
  pu_c (S := q153) hS (by decide) hd (fun σ => ⟨_, _, rfl, rfl, _, _, rfl, ⟨a, rfl, ⟨by omega, by omega⟩, ha.1, ha.2, fun _ h => nomatch h⟩, _, _, rfl, ⟨b, rfl, ⟨by omega, by omega⟩, hb.1, hb.2, fun _ h => nomatch h⟩, rfl⟩) hF (fun σ o K2 R2 M2 ho hF2 hf2 => by
    obtain ⟨oc, hoc, ho⟩ := ho
    have hoc : oc ∈ [_, _] := hoc
    simp only [List.mem_cons, List.not_mem_nil, or_false] at hoc
    rcases hoc with rfl | rfl
    · rcases o with (_ | v) | x
      · exact q _ _ _ _ (Or.inr rfl) hF2 hf2
      · exact absurd ho id
      · exact absurd ho id
    · rcases o with (_ | v) | x
      · exact absurd ho id
      · exact absurd ho id
      · have ho : 0 = x := ho
        subst ho
        exact q _ _ _ _ (Or.inl rfl) hF2 hf2)
theorem q180_c (hS : ck_Ok qL_O X LX 180 q180) (hd : 1 ≤ d) (hF : gm_Fx qL_O 249 K R M) (ha : 0 ≤ a ∧ a ≤ 23) (hb : 0 ≤ b ∧ b ≤ 23) (q : ∀ v K2 R2 M2, 0 ≤ v → v ≤ 1 → gm_Fx qL_O 249 K2 R2 M2 → ck_fr ([], []) 249 K R M 249 K2 R2 M2 → Q (.inl (some (gm_vi v))) 249 K2 R2 M2) : gm_Wp X LX d 0 0 180 0 (gm_ent 180 [gm_vr 1, gm_vi a, gm_vi b]) [] 249 K R M Q :=
  pu_c (S := q180) hS (by decide) hd (fun σ => ⟨_, _, rfl, rfl, _, _, rfl, ⟨a, rfl, ⟨by omega, by omega⟩, ha.1, ha.2, fun _ h => nomatch h⟩, _, _, rfl, ⟨b, rfl, ⟨by omega, by omega⟩, hb.1, hb.2, fun _ h => nomatch h⟩, rfl⟩) hF (fun σ o K2 R2 M2 ho hF2 hf2 => by
    obtain ⟨oc, hoc, ho⟩ := ho
    have hoc : oc ∈ [_, _] := hoc
    simp only [List.mem_cons, List.not_mem_nil, or_false] at hoc
    rcases hoc with rfl | rfl
    · rcases o with (_ | v) | x
      · exact absurd ho id
      · obtain ⟨y, rfl, -, y0, y1, -⟩ := ho
        have y0 : (0 : Int) ≤ y := y0
        have y1 : y ≤ (0 : Int) := y1
        exact q y _ _ _ (by omega) (by omega) hF2 hf2
      · exact absurd ho id
    · rcases o with (_ | v) | x
      · exact absurd ho id
      · obtain ⟨y, rfl, -, y0, y1, -⟩ := ho
        have y0 : (1 : Int) ≤ y := y0
        have y1 : y ≤ (1 : Int) := y1
        exact q y _ _ _ (by omega) (by omega) hF2 hf2
      · exact absurd ho id)
noncomputable def q221 : ck_Sum := (((24 : Nat), (3 : Nat), (18 : Nat)), (249 : Nat), [.inr (.inr (.inl (1 : Nat))), .inl ((0 : Int), (23 : Int), []), .inl ((0 : Int), (23 : Int), [])], ([], [((3 : Nat), (8 : Int), (246 : Nat))], []), q31_W, [(.inl (3 : Nat), (249 : Nat), ([], [], [])), (.inl (0 : Nat), (249 : Nat), ([], [], [])), (.inr (some (.inl ((-1 : Int), (299 : Int), []))), (249 : Nat), ([], [], []))])
theorem q221_l (h6 : s32_206 X LX) (h7 : s32_207 X LX) (hd : 18 ≤ d) (h80 : R0 3 8 = 246) (hq : ∀ v K2 R2 M2, -1 ≤ v → v ≤ 299 → gm_Fx qL_O 249 K2 R2 M2 → ck_fr q31_W 249 K0 R0 M0 249 K2 R2 M2 → Q (.inl (some (gm_vi v))) 249 K2 R2 M2) : ∀ (u : Nat) (i : Int) (K : gm_K) (R : gm_R) (M : gm_M), i + (u : Int) = 300 → 0 ≤ i → SPc 206 i M → SPc 207 i M → gm_Fx qL_O 249 K R M → ck_fr q31_W 249 K0 R0 M0 249 K R M → gm_Wp X LX d 0 0 221 44 [some (gm_vr 1), some (gm_vi a), some (gm_vi b), some (gm_vi v), some (gm_vi i)] [] 249 K R M Q := by
  intro u
  induction u with
  | zero =>
    intro i K R M hu hi hs hs7 hF hfr
    refine gm_sz (gm_p_load (pc := 44) (i := .iload 4) (sr := 0) (j := 4) (by decide +kernel) rfl rfl rfl) ?_
    refine gm_sz (gm_p_const (pc := 46) (i := .sipush 300) (v := gm_vi 300) (by decide +kernel) (by decide +kernel)) ?_
    refine fw_ict (cc := .ge) (pc := 49) (off := 42) (by decide +kernel) (by decide) ⟨by omega, by omega⟩ ⟨by decide, by decide⟩ (show 300 ≤ i by omega) ?_
    refine gm_sz (gm_p_const (pc := 91) (i := .iconst (-1)) (v := gm_vi (-1)) (by decide +kernel) (by decide +kernel)) ?_
    exact gm_r_int (pc := 92) (by decide +kernel) (Or.inl (by decide +kernel)) (hq (-1) _ _ _ (Int.le_refl _) (by decide) hF hfr)
  | succ u ih =>
    intro i K R M hu hi hs hs7 hF hfr
    refine gm_sz (gm_p_load (pc := 44) (i := .iload 4) (sr := 0) (j := 4) (by decide +kernel) rfl rfl rfl) ?_
    refine gm_sz (gm_p_const (pc := 46) (i := .sipush 300) (v := gm_vi 300) (by decide +kernel) (by decide +kernel)) ?_
    refine fw_icf (cc := .ge) (pc := 49) (off := 42) (by decide +kernel) (by decide) ⟨by omega, by omega⟩ ⟨by decide, by decide⟩ (show ¬ 300 ≤ i by omega) ?_
    refine gm_sz (gm_p_load (pc := 52) (i := .aload_n 0) (sr := 2) (j := 0) (by decide +kernel) rfl rfl rfl) ?_
    refine gm_c_virt (k := 1) (ci := 0) (mj := 183) (ix := 329) (pc := 53) (as := []) (st := []) (d' := 1) (bc' := 0) (bs' := 0) (by decide +kernel) (by decide +kernel) (by decide +kernel) (by decide +kernel) (e0k (e0F (pl_o (qL_p hF))) (k := 1) (c := 0) (by decide +kernel)).1 (e0k (e0F (pl_o (qL_p hF))) (k := 1) (c := 0) (by decide +kernel)).2 (by decide) (by decide +kernel) (show 0 = gm_na 183 by decide +kernel) fw_c0 (show 0 + 1 ≤ gm_ml 183 by decide +kernel) (Nat.le_of_ble_eq_true rfl) (by omega) (Nat.zero_le _) (Nat.zero_le _) ?_
    refine q183_c (Nat.le_refl _) hF hs hs7 (fun t K2 R2 M2 t0 t1 hF2 hf2 => ?_)
    have hfr2 : ck_fr q31_W 249 K0 R0 M0 249 K2 R2 M2 := ck_fr_tr hfr hf2 (by decide) (by decide)
    have hs62 : SPc 206 i M2 := sp_e hf2 (by decide) (by decide) hs
    have hs72 : SPc 207 i M2 := sp_e hf2 (by decide) (by decide) hs7
    have b6 := (spc_b hs62).1
    have b7 := (spc_b hs72).1
    show gm_Wp X LX d 0 0 221 56 [some (gm_vr 1), some (gm_vi a), some (gm_vi b), some (gm_vi v), some (gm_vi i)] [gm_vi t] 249 K2 R2 M2 Q
    refine fw_if (cc := .ne) (pc := 56) (off := 5) (by decide +kernel) (by decide) ⟨by omega, by omega⟩ (fun hp => ?_) (fun hp => ?_)
    · refine gm_sz (gm_p_load (pc := 61) (i := .aload_n 0) (sr := 2) (j := 0) (by decide +kernel) rfl rfl rfl) ?_
      refine gm_sz (fw_gr (pc := 62) (ix := 58) (ci := 0) (j := 9) (r := 206) (by decide +kernel) (e0k (e0F (pl_o (qL_p hF2))) (k := 1) (c := 0) (by decide +kernel)) (by decide +kernel) (by decide +kernel) (e0r (e0F (pl_o (qL_p hF2))) (k := 1) (j := 9) (r := 206) (by decide +kernel))) ?_
      refine gm_sz (fw_gi (pc := 65) (ix := 223) (ci := 5) (j := 5) (x := M2 206 5) (by decide +kernel) (e0k (e0F (pl_o (qL_p hF2))) (k := 206) (c := 5) (by decide +kernel)) (by decide +kernel) (by decide +kernel) rfl) ?_
      refine gm_sz (gm_p_load (pc := 68) (i := .aload_n 0) (sr := 2) (j := 0) (by decide +kernel) rfl rfl rfl) ?_
      refine gm_sz (fw_gr (pc := 69) (ix := 62) (ci := 0) (j := 10) (r := 207) (by decide +kernel) (e0k (e0F (pl_o (qL_p hF2))) (k := 1) (c := 0) (by decide +kernel)) (by decide +kernel) (by decide +kernel) (e0r (e0F (pl_o (qL_p hF2))) (k := 1) (j := 10) (r := 207) (by decide +kernel))) ?_
      refine gm_sz (fw_gi (pc := 72) (ix := 223) (ci := 5) (j := 5) (x := M2 207 5) (by decide +kernel) (e0k (e0F (pl_o (qL_p hF2))) (k := 207) (c := 5) (by decide +kernel)) (by decide +kernel) (by decide +kernel) rfl) ?_
      refine fw_ic (cc := .ne) (pc := 75) (off := 6) (by decide +kernel) (by decide) ⟨by omega, by omega⟩ ⟨by omega, by omega⟩ (fun hp2 => ?_) (fun hp2 => ?_)
      · refine gm_sz (gm_p_load (pc := 81) (i := .aload_n 0) (sr := 2) (j := 0) (by decide +kernel) rfl rfl rfl) ?_
        refine gm_c_virt (k := 1) (ci := 0) (mj := 184) (ix := 332) (pc := 82) (as := []) (st := []) (d' := 14) (bc' := 0) (bs' := 0) (by decide +kernel) (by decide +kernel) (by decide +kernel) (by decide +kernel) (e0k (e0F (pl_o (qL_p hF2))) (k := 1) (c := 0) (by decide +kernel)).1 (e0k (e0F (pl_o (qL_p hF2))) (k := 1) (c := 0) (by decide +kernel)).2 (by decide) (by decide +kernel) (show 0 = gm_na 184 by decide +kernel) fw_c0 (show 0 + 1 ≤ gm_ml 184 by decide +kernel) (Nat.le_of_ble_eq_true rfl) (by omega) (Nat.zero_le _) (Nat.zero_le _) ?_
        refine q184_c h6 h7 (Nat.le_refl _) hF2 (r8_f h80 hfr2) hs62 hs72 (by omega) (by omega) (fun K3 R3 M3 hF3 hf3 hs63 hs73 => ?_)
        have hfr3 : ck_fr q31_W 249 K0 R0 M0 249 K3 R3 M3 := ck_fr_tr hfr2 hf3 (by decide) (by decide)
        show gm_Wp X LX d 0 0 221 85 [some (gm_vr 1), some (gm_vi a), some (gm_vi b), some (gm_vi v), some (gm_vi i)] [] 249 K3 R3 M3 Q
        refine gm_sz (gm_p_iinc (pc := 85) (j := 4) (z := 1) (by decide +kernel) rfl) ?_
        refine gm_sz (gm_p_goto (pc := 88) (off := (-44)) (by decide +kernel) (by decide)) ?_
        exact ih (i + 1) K3 R3 M3 (by omega) (by omega) hs63 hs73 hF3 hfr3
      · refine gm_sz (gm_p_load (pc := 78) (i := .iload 4) (sr := 0) (j := 4) (by decide +kernel) rfl rfl rfl) ?_
        exact gm_r_int (pc := 80) (by decide +kernel) (Or.inl (by decide +kernel)) (hq i _ _ _ (by omega) (by omega) hF2 hfr2)
    · refine gm_sz (gm_p_const (pc := 59) (i := .iconst (-1)) (v := gm_vi (-1)) (by decide +kernel) (by decide +kernel)) ?_
      exact gm_r_int (pc := 60) (by decide +kernel) (Or.inl (by decide +kernel)) (hq (-1) _ _ _ (Int.le_refl _) (by decide) hF2 hfr2)
theorem q221_s (h6 : s32_206 X LX) (h7 : s32_207 X LX) (s6 : ck_Ok qL_O X LX 27 q27_206) (s7 : ck_Ok qL_O X LX 27 q27_207) (t143 : ck_Ok qL_O X LX 143 q143) (t153 : ck_Ok qL_O X LX 153 q153) (t180 : ck_Ok qL_O X LX 180 q180) : ck_Ok qL_O X LX 221 q221 := by
  intro d σ vs n K R M hd hn hvs hσ hF hf
  obtain ⟨v0, w0, rfl, g0, v1, w1, rfl, ⟨a, rfl, ha, a0, a1, -⟩, v2, w2, rfl, ⟨b, rfl, hb, b0, b1, -⟩, g4⟩ := hvs
  have g4 : w2 = [] := g4
  subst g4
  have g0 : v0 = gm_vr 1 := g0
  subst g0
  have a0 : (0 : Int) ≤ a := a0
  have a1 : a ≤ (23 : Int) := a1
  have b0 : (0 : Int) ≤ b := b0
  have b1 : b ≤ (23 : Int) := b1
  have hn : n = 249 := hn
  subst hn
  have hd : 24 ≤ d := hd
  have h8 : R 3 8 = 246 := (hf.2.1 (3, 8, 246) List.mem_cons_self).2
  have hq : ∀ v K2 R2 M2, -1 ≤ v → v ≤ 299 → gm_Fx qL_O 249 K2 R2 M2 → ck_fr q31_W 249 K R M 249 K2 R2 M2 → (ck_Q qL_O σ q221.2.2.2.2.1 249 K R M q221.2.2.2.2.2) (.inl (some (gm_vi v))) 249 K2 R2 M2 := fun t K9 R9 M9 t0 t1 hF9 hfr9 => ⟨hF9, hfr9, _, List.mem_cons_of_mem _ (List.mem_cons_of_mem _ List.mem_cons_self), ⟨t, rfl, ⟨by omega, by omega⟩, t0, t1, (fun _ h => nomatch h)⟩, rfl, (fun _ h => nomatch h), (fun _ h => nomatch h), (fun _ h => nomatch h)⟩
  have x3 : ∀ K2 R2 M2, gm_Fx qL_O 249 K2 R2 M2 → ck_fr q31_W 249 K R M 249 K2 R2 M2 → (ck_Q qL_O σ q221.2.2.2.2.1 249 K R M q221.2.2.2.2.2) (.inr 3) 249 K2 R2 M2 := fun K9 R9 M9 hF9 hfr9 => ⟨hF9, hfr9, _, List.mem_cons_self, rfl, rfl, (fun _ h => nomatch h), (fun _ h => nomatch h), (fun _ h => nomatch h)⟩
  have x0 : ∀ K2 R2 M2, gm_Fx qL_O 249 K2 R2 M2 → ck_fr q31_W 249 K R M 249 K2 R2 M2 → (ck_Q qL_O σ q221.2.2.2.2.1 249 K R M q221.2.2.2.2.2) (.inr 0) 249 K2 R2 M2 := fun K9 R9 M9 hF9 hfr9 => ⟨hF9, hfr9, _, List.mem_cons_of_mem _ List.mem_cons_self, rfl, rfl, (fun _ h => nomatch h), (fun _ h => nomatch h), (fun _ h => nomatch h)⟩
  refine gm_sz (gm_p_load (pc := 0) (i := .aload_n 0) (sr := 2) (j := 0) (by decide +kernel) rfl rfl rfl) ?_
  refine gm_sz (gm_p_load (pc := 1) (i := .iload_n 1) (sr := 0) (j := 1) (by decide +kernel) rfl rfl rfl) ?_
  refine gm_c_virt (k := 1) (ci := 0) (mj := 143) (ix := 200) (pc := 2) (as := [gm_vi a]) (st := []) (d' := 7) (bc' := 1) (bs' := 6) (by decide +kernel) (by decide +kernel) (by decide +kernel) (by decide +kernel) (e0k (e0F (pl_o (qL_p hF))) (k := 1) (c := 0) (by decide +kernel)).1 (e0k (e0F (pl_o (qL_p hF))) (k := 1) (c := 0) (by decide +kernel)).2 (by decide) (by decide +kernel) (show 1 = gm_na 143 by decide +kernel) (fw_c1 (by simp [gm_sort])) (show 1 + 1 ≤ gm_ml 143 by decide +kernel) (Nat.le_of_ble_eq_true rfl) (by omega) (by decide) (by decide) ?_
  refine q143_c t143 (Nat.le_refl _) hF ⟨a0, a1⟩ (fun o K2 R2 M2 ho hF2 hf2 => ?_)
  have hfr2 : ck_fr q31_W 249 K R M 249 K2 R2 M2 := ck_fr_tr ck_fr_0 hf2 (by decide) (by decide)
  rcases ho with rfl | rfl
  · exact x3 _ _ _ hF2 hfr2
  show gm_Wp X LX d 2 12 221 5 [some (gm_vr 1), some (gm_vi a), some (gm_vi b), none, none] [] 249 K2 R2 M2 (ck_Q qL_O σ q221.2.2.2.2.1 249 K R M q221.2.2.2.2.2)
  refine gm_sz (gm_p_load (pc := 5) (i := .aload_n 0) (sr := 2) (j := 0) (by decide +kernel) rfl rfl rfl) ?_
  refine gm_sz (gm_p_load (pc := 6) (i := .iload_n 2) (sr := 0) (j := 2) (by decide +kernel) rfl rfl rfl) ?_
  refine gm_c_virt (k := 1) (ci := 0) (mj := 143) (ix := 200) (pc := 7) (as := [gm_vi b]) (st := []) (d' := 7) (bc' := 1) (bs' := 6) (by decide +kernel) (by decide +kernel) (by decide +kernel) (by decide +kernel) (e0k (e0F (pl_o (qL_p hF2))) (k := 1) (c := 0) (by decide +kernel)).1 (e0k (e0F (pl_o (qL_p hF2))) (k := 1) (c := 0) (by decide +kernel)).2 (by decide) (by decide +kernel) (show 1 = gm_na 143 by decide +kernel) (fw_c1 (by simp [gm_sort])) (show 1 + 1 ≤ gm_ml 143 by decide +kernel) (Nat.le_of_ble_eq_true rfl) (by omega) (by decide) (by decide) ?_
  refine q143_c t143 (Nat.le_refl _) hF2 ⟨b0, b1⟩ (fun o K3 R3 M3 ho hF3 hf3 => ?_)
  have hfr3 : ck_fr q31_W 249 K R M 249 K3 R3 M3 := ck_fr_tr hfr2 hf3 (by decide) (by decide)
  rcases ho with rfl | rfl
  · exact x3 _ _ _ hF3 hfr3
  show gm_Wp X LX d 1 6 221 10 [some (gm_vr 1), some (gm_vi a), some (gm_vi b), none, none] [] 249 K3 R3 M3 (ck_Q qL_O σ q221.2.2.2.2.1 249 K R M q221.2.2.2.2.2)
  refine gm_sz (gm_p_load (pc := 10) (i := .aload_n 0) (sr := 2) (j := 0) (by decide +kernel) rfl rfl rfl) ?_
  refine gm_sz (gm_p_load (pc := 11) (i := .iload_n 1) (sr := 0) (j := 1) (by decide +kernel) rfl rfl rfl) ?_
  refine gm_sz (gm_p_load (pc := 12) (i := .iload_n 2) (sr := 0) (j := 2) (by decide +kernel) rfl rfl rfl) ?_
  refine gm_c_virt (k := 1) (ci := 0) (mj := 153) (ix := 234) (pc := 13) (as := [gm_vi a, gm_vi b]) (st := []) (d' := 6) (bc' := 1) (bs' := 6) (by decide +kernel) (by decide +kernel) (by decide +kernel) (by decide +kernel) (e0k (e0F (pl_o (qL_p hF3))) (k := 1) (c := 0) (by decide +kernel)).1 (e0k (e0F (pl_o (qL_p hF3))) (k := 1) (c := 0) (by decide +kernel)).2 (by decide) (by decide +kernel) (show 2 = gm_na 153 by decide +kernel) (fun v hv => by simp only [List.mem_cons, List.not_mem_nil, or_false] at hv; rcases hv with rfl | rfl <;> simp [gm_sort]) (show 2 + 1 ≤ gm_ml 153 by decide +kernel) (Nat.le_of_ble_eq_true rfl) (by omega) (by decide) (by decide) ?_
  refine q153_c t153 (Nat.le_refl _) hF3 ⟨a0, a1⟩ ⟨b0, b1⟩ (fun o K4 R4 M4 ho hF4 hf4 => ?_)
  have hfr4 : ck_fr q31_W 249 K R M 249 K4 R4 M4 := ck_fr_tr hfr3 hf4 (by decide) (by decide)
  rcases ho with rfl | rfl
  · exact x0 _ _ _ hF4 hfr4
  show gm_Wp X LX d 0 0 221 16 [some (gm_vr 1), some (gm_vi a), some (gm_vi b), none, none] [] 249 K4 R4 M4 (ck_Q qL_O σ q221.2.2.2.2.1 249 K R M q221.2.2.2.2.2)
  refine gm_sz (gm_p_load (pc := 16) (i := .aload_n 0) (sr := 2) (j := 0) (by decide +kernel) rfl rfl rfl) ?_
  refine gm_sz (gm_p_load (pc := 17) (i := .iload_n 1) (sr := 0) (j := 1) (by decide +kernel) rfl rfl rfl) ?_
  refine gm_sz (gm_p_load (pc := 18) (i := .iload_n 2) (sr := 0) (j := 2) (by decide +kernel) rfl rfl rfl) ?_
  refine gm_c_virt (k := 1) (ci := 0) (mj := 180) (ix := 319) (pc := 19) (as := [gm_vi a, gm_vi b]) (st := []) (d' := 1) (bc' := 0) (bs' := 0) (by decide +kernel) (by decide +kernel) (by decide +kernel) (by decide +kernel) (e0k (e0F (pl_o (qL_p hF4))) (k := 1) (c := 0) (by decide +kernel)).1 (e0k (e0F (pl_o (qL_p hF4))) (k := 1) (c := 0) (by decide +kernel)).2 (by decide) (by decide +kernel) (show 2 = gm_na 180 by decide +kernel) (fun v hv => by simp only [List.mem_cons, List.not_mem_nil, or_false] at hv; rcases hv with rfl | rfl <;> simp [gm_sort]) (show 2 + 1 ≤ gm_ml 180 by decide +kernel) (Nat.le_of_ble_eq_true rfl) (by omega) (Nat.zero_le _) (Nat.zero_le _) ?_
  refine q180_c t180 (Nat.le_refl _) hF4 ⟨a0, a1⟩ ⟨b0, b1⟩ (fun t K5 R5 M5 t0 t1 hF5 hf5 => ?_)
  have hfr5 : ck_fr q31_W 249 K R M 249 K5 R5 M5 := ck_fr_tr hfr4 hf5 (by decide) (by decide)
  show gm_Wp X LX d 0 0 221 22 [some (gm_vr 1), some (gm_vi a), some (gm_vi b), none, none] [gm_vi t] 249 K5 R5 M5 (ck_Q qL_O σ q221.2.2.2.2.1 249 K R M q221.2.2.2.2.2)
  refine fw_if (cc := .ne) (pc := 22) (off := 5) (by decide +kernel) (by decide) ⟨by omega, by omega⟩ (fun hp => ?_) (fun hp => ?_)
  · refine gm_sz (gm_p_load (pc := 27) (i := .aload_n 0) (sr := 2) (j := 0) (by decide +kernel) rfl rfl rfl) ?_
    refine gm_sz (gm_p_load (pc := 28) (i := .iload_n 1) (sr := 0) (j := 1) (by decide +kernel) rfl rfl rfl) ?_
    refine gm_sz (gm_p_load (pc := 29) (i := .iload_n 2) (sr := 0) (j := 2) (by decide +kernel) rfl rfl rfl) ?_
    refine gm_sz (gm_p_load (pc := 30) (i := .aload_n 0) (sr := 2) (j := 0) (by decide +kernel) rfl rfl rfl) ?_
    refine gm_sz (fw_gr (pc := 31) (ix := 23) (ci := 0) (j := 3) (r := 3) (by decide +kernel) (e0k (e0F (pl_o (qL_p hF5))) (k := 1) (c := 0) (by decide +kernel)) (by decide +kernel) (by decide +kernel) (e0r (e0F (pl_o (qL_p hF5))) (k := 1) (j := 3) (r := 3) (by decide +kernel))) ?_
    have hy := ((gm_tyr_s (pl_o (qL_p hF5)) (show gm_tyr p2_O 3 6 6 = some (0, 299) by decide +kernel)).2 6 (Int.le_refl _) (Int.le_refl _)).2
    refine gm_sz (fw_gi (pc := 34) (ix := 269) (ci := 1) (j := 6) (x := M5 3 6) (by decide +kernel) (e0k (e0F (pl_o (qL_p hF5))) (k := 3) (c := 1) (by decide +kernel)) (by decide +kernel) (by decide +kernel) rfl) ?_
    refine gm_c_virt (k := 1) (ci := 0) (mj := 182) (ix := 326) (pc := 37) (as := [gm_vi a, gm_vi b, gm_vi (M5 3 6)]) (st := []) (d' := 15) (bc' := 0) (bs' := 0) (by decide +kernel) (by decide +kernel) (by decide +kernel) (by decide +kernel) (e0k (e0F (pl_o (qL_p hF5))) (k := 1) (c := 0) (by decide +kernel)).1 (e0k (e0F (pl_o (qL_p hF5))) (k := 1) (c := 0) (by decide +kernel)).2 (by decide) (by decide +kernel) (show 3 = gm_na 182 by decide +kernel) (fun v hv => by simp only [List.mem_cons, List.not_mem_nil, or_false] at hv; rcases hv with rfl | rfl | rfl <;> simp [gm_sort]) (show 3 + 1 ≤ gm_ml 182 by decide +kernel) (Nat.le_of_ble_eq_true rfl) (by omega) (Nat.zero_le _) (Nat.zero_le _) ?_
    refine q182_c h6 h7 s6 s7 (Nat.le_refl _) hF5 (r8_f h8 hfr5) ⟨a0, a1⟩ ⟨b0, b1⟩ hy (fun v K6 R6 M6 v0 v1 hF6 hf6 hs6 hs7 => ?_)
    show gm_Wp X LX d 0 0 221 40 [some (gm_vr 1), some (gm_vi a), some (gm_vi b), none, none] [gm_vi v] 249 K6 R6 M6 (ck_Q qL_O σ q221.2.2.2.2.1 249 K R M q221.2.2.2.2.2)
    refine gm_sz (gm_p_stor (pc := 40) (i := .istore_n 3) (sr := 0) (j := 3) (by decide +kernel) rfl (show 4 ≤ _ from Nat.le_of_ble_eq_true rfl) rfl) ?_
    refine gm_sz (gm_p_load (pc := 41) (i := .iload_n 3) (sr := 0) (j := 3) (by decide +kernel) rfl rfl rfl) ?_
    refine gm_sz (gm_p_stor (pc := 42) (i := .istore 4) (sr := 0) (j := 4) (by decide +kernel) rfl (show 5 ≤ _ from Nat.le_of_ble_eq_true rfl) rfl) ?_
    exact q221_l h6 h7 (by omega) h8 hq (300 - v).toNat v K6 R6 M6 (by omega) v0 hs6 hs7 hF6 (ck_fr_tr hfr5 hf6 (by decide) (by decide))
  · refine gm_sz (gm_p_const (pc := 25) (i := .iconst (-1)) (v := gm_vi (-1)) (by decide +kernel) (by decide +kernel)) ?_
    exact gm_r_int (pc := 26) (by decide +kernel) (Or.inl (by decide +kernel)) (hq (-1) _ _ _ (Int.le_refl _) (by decide) hF5 hfr5)
end ME33
end
/-! 7c34.kq -/
section
/-! THE CALLS THAT ONLY ASK AND KEEP SOMETHING, told of the world. -/
section KQ34
variable {X : Int → Int} {LX : Nat} {g z g1 : Nat} {la : Nat → Nat} {K K2 : gm_K} {R R2 : gm_R} {M M2 : gm_M} {L : gm_L} {st : List gm_V} {Q : gm_Q} {N : Int → Int} {lw : Option (List lln)} {A : List (Int → Int)} {im : Option ((Int → Int) × Option (List lln))} {t w : Int} {f : Int → Int} {bc bs pc : Nat} {S : ck_Sum}
noncomputable def kpt (k : Nat) (j : Int) : Prop := (k = 1 ∧ j = 15) ∨ (k = 200 ∧ j = 6) ∨ k = 205 ∨ k = 220 ∨ k = 221
theorem clv_k (hV : CLV N lw A im t w f M) (hC : CST M2) (e : ∀ k j, cK k j → ¬ kpt k j → M2 k j = M k j) (h15 : M2 1 15 = 0 ∨ (M2 1 15 = 1 ∧ ENDS N (hts (N 13)) (aphi lw N (hts (N 13))) M2)) (hk : ¬ lw = none → KFL N (aphx lw N (hts (N 13))) M2) : CLV N lw A im t w f M2 := by
  obtain ⟨⟨hT, hH⟩, -, -, hi, ht, hf⟩ := hV
  have e2 : ∀ (k : Nat) (j : Int), cK k j → ¬ (k = 1 ∧ j = 15) → ¬ k = 200 → ¬ k = 205 → ¬ k = 220 → ¬ k = 221 → M2 k j = M k j := fun k j h1 h2 h3 h4 h5 h6 => e k j h1 (by unfold kpt; omega)
  have e6 : M2 1 6 = M 1 6 := e2 1 6 (by unfold cK; omega) (by decide) (by decide) (by decide) (by decide) (by decide)
  refine ⟨⟨⟨hC, ?_, fun y y0 y1 => ?_, fun l r l0 l1 r0 r1 => ?_⟩, his_fr hH (fun x j h1 h2 => e2 x j (by unfold cK; omega) (by omega) (by omega) (by omega) (by omega) (by omega))⟩, h15, hk, ?_, ⟨?_, ?_⟩, fun j j0 j1 => ?_⟩
  · rw [← hT.2.1]
    exact cs_same fun x j h1 h2 => e2 x j (by unfold cK; omega) (by omega) (by omega) (by omega) (by omega) (by omega)
  · rw [e2 201 y (by unfold cK; omega) (by omega) (by omega) (by omega) (by omega) (by omega), e2 203 y (by unfold cK; omega) (by omega) (by omega) (by omega) (by omega) (by omega)]
    exact hT.2.2.1 y y0 y1
  · rw [e2 202 _ (by unfold cK; omega) (by omega) (by omega) (by omega) (by omega) (by omega)]
    exact hT.2.2.2 l r l0 l1 r0 r1
  · rw [e6]
    refine hi.imp_right fun ⟨h1, NI, lI, h2, h3⟩ => ⟨h1, NI, lI, h2, ?_⟩
    rw [← h3]
    exact cs_same fun x j h1 h2 => e2 x j (by unfold cK; omega) (by omega) (by omega) (by omega) (by omega) (by omega)
  · rw [e2 1 1 (by unfold cK; omega) (by decide) (by decide) (by decide) (by decide) (by decide)]; exact ht.1
  · rw [e2 1 2 (by unfold cK; omega) (by decide) (by decide) (by decide) (by decide) (by decide)]; exact ht.2
  · rw [e2 2 j (by unfold cK; omega) (by omega) (by omega) (by omega) (by omega) (by omega)]; exact hf j j0 j1
theorem qC_w (hG : GJ N) (hV : CLV N lw A im t w f M) : qC lw N M := ⟨hG, ⟨hV.1.1.2.1, hV.1.1.2.2.1, hV.1.1.2.2.2⟩, hV.2.1⟩
theorem bs_q0 (hb : bg g la K R M) (hR : REL la K M N none A im t w f) : gm_Fx q0_O 245 (bs_K la K) (bs_R 0 0) (bs_M la M) := by
  have h := bs_F0 (z := 0) hb
  refine ⟨h.1, h.2.1, h.2.2.1, fun k r hr => ?_, h.2.2.2.2, N, qC_w hR.1.1 (clv_w hb hR.2.2.1)⟩
  rcases List.mem_append.mp hr with hr | hr
  · exact h.2.2.2.1 k r hr
  · unfold qC_fp at hr
    by_cases hk : k ≤ 245
    · exact hk
    · rw [if_neg (by omega), if_neg (by omega), if_neg (by omega), if_neg (by omega), if_neg (by omega), if_neg (by omega)] at hr
      cases hr
noncomputable def w_k (O : gm_Or) (z g1 k1 : Nat) (t : Bool) (S : ck_Sum) : Bool := bc_ok O z g1 S && (bc_args S k1 t && (decide (S.1.1 + 1 ≤ 280 ∧ S.1.2.1 ≤ 6 ∧ S.1.2.2 ≤ 600) && (S.2.2.2.2.1.2.isEmpty && S.2.2.2.2.1.1.all fun w => qk_c w || (!cKb w && !rKb w))))
theorem wk_e {n0 n : Nat} {K0 K' : gm_K} {R0 R' : gm_R} {M0 M' : gm_M} (h : (S.2.2.2.2.1.1.all fun w => qk_c w || (!cKb w && !rKb w)) = true) (hfr : ck_fr S.2.2.2.2.1 n0 K0 R0 M0 n K' R' M') {k : Nat} {j : Int} (hk : k ≤ n0) (hc : (cK k j ∧ ¬ kpt k j) ∨ rK k j) : M' k j = M0 k j := by
  refine hfr.2.2.1 k j hk fun w hw hh => ?_
  have := List.all_eq_true.mp h w hw
  simp only [Bool.or_eq_true, Bool.and_eq_true, Bool.not_eq_true'] at this
  rcases this with h9 | h9
  · have h9 := of_decide_eq_true h9
    rcases hc with ⟨hc, hn⟩ | hc
    · unfold cK at hc
      unfold kpt at hn
      omega
    · have := rk_le hc
      omega
  · rcases hc with ⟨hc, -⟩ | hc
    · rw [cKb_s hc hh] at h9; exact absurd h9.1 (by decide)
    · rw [rKb_s hc hh] at h9; exact absurd h9.2 (by decide)
/-- without a law -/
theorem wk0_s {k1 : Nat} {tt : Bool} (hb : bg g la K R M) (h3 : la 3 = 0) (hck : w_k q0_O 0 0 k1 tt S = true) (hR : REL la K M N none A im t w f) (hbc : 6 ≤ bc) (hbs : 600 ≤ bs) (k : mq_K X LX bc bs pc L st Q g (fun la2 K2 M2 => REL la2 K2 M2 N none A im t w f) (fun u _ => mq_V S u)) : bc_KX X LX 280 (bc - S.1.2.1) (bs - S.1.2.2) 370 pc L st Q q0_O 0 0 g la K M S := by
  have hz : bs_ok la 0 0 := Or.inl ⟨rfl, rfl, h3⟩
  simp only [w_k, Bool.and_eq_true, decide_eq_true_eq, List.isEmpty_iff] at hck
  obtain ⟨-, -, hbd, hR2, hW⟩ := hck
  intro oc hoc σ u n' K' R' M' _ ho hf hF hfr hb2
  have eR : ∀ k j, k ≤ 245 + 4 * 0 → R' k j = bs_R 0 0 k j := fun k j hk => hfr.2.2.2 k j hk (by rw [hR2]; exact fun h => nomatch h)
  have e0 : ∀ k j, k ≤ 245 → bg_M g M M' k j = M' k j := fun k j hk => bg_Ms hk j
  have e : ∀ k j, k ≤ 245 → ((cK k j ∧ ¬ kpt k j) ∨ rK k j) → bg_M g M M' k j = M k j := fun k j hk h => by
    rw [bg_Ms hk, wk_e hW hfr (by omega) h, vM hk]
  obtain ⟨-, N2, hq⟩ := hF.2.2.2.2
  have eN : N2 = N := by
    rw [← hq.2.1.1, ← hR.2.2.1.1.1.2.1]
    exact cs_same fun x j h1 h2 => by
      rw [← e0 x j (by omega)]
      exact e x j (by omega) (Or.inl ⟨by unfold cK; omega, by unfold kpt; omega⟩)
  subst eN
  have h15 : bg_M g M M' 1 15 = 0 ∨ (bg_M g M M' 1 15 = 1 ∧ ENDS N2 (hts (N2 13)) (aphi none N2 (hts (N2 13))) (bg_M g M M')) := by
    rw [e0 1 15 (by decide)]
    exact hq.2.2.imp_right fun hh => ⟨hh.1, ends_x hh.2 (fun k j hk => e0 k j (by omega))⟩
  refine gm_Wp_wk (Nat.le_refl _) (by omega) (by omega) (k u _ _ _ _ ⟨oc, hoc, σ, ho⟩ hb2 ⟨hR.1, lwl_e hR.2.1 hb.2.2.2 (fun s hs => ?_) (e 42 1 (by decide) (Or.inl ⟨by unfold cK; omega, by unfold kpt; omega⟩)) (fun k k1 k2 => bg_Ks k2) (fun k j k1 k2 => bg_oldM k1 k2), clv_k hR.2.2.1 (cstF hb2.2.1) (fun k j hk hn => e k j (by have := ck_le hk; omega) (Or.inl ⟨hk, hn⟩)) h15 (fun hn => absurd rfl hn), rfv_e hR.2.2.2 (fun k j hk => e k j (by have := rk_le hk; omega) (Or.inr hk))⟩)
  show bg_dc la g 0 (R' s 8) = la s
  rw [eR s 8 (by have := bg_ssl hs; omega)]
  exact bg_dcs hz hs
end KQ34
end
/-! 7c35.kr -/
section
/-! THE CALLS THAT ONLY ASK AND KEEP SOMETHING, told of the world: under a law; the reference. -/
section KR35
variable {X : Int → Int} {LX : Nat} {g z g1 : Nat} {la : Nat → Nat} {K K2 : gm_K} {R R2 : gm_R} {M M2 : gm_M} {L : gm_L} {st : List gm_V} {Q : gm_Q} {N : Int → Int} {lw lw2 : Option (List lln)} {ls : List lln} {A : List (Int → Int)} {im : Option ((Int → Int) × Option (List lln))} {t w : Int} {f W : Int → Int} {bc bs pc : Nat} {S : ck_Sum}
theorem bs_qL (hb : bg g la K R M) (h3 : ¬ la 3 = 0) (hR : REL la K M N (some ls) A im t w f) : gm_Fx qL_O 249 (bs_K la K) (bs_R 246 1) (bs_M la M) := by
  have h := bs_F1 hb h3
  obtain ⟨-, hW, NC, h1, h2, h4, h5⟩ := hR.2.1.1.2 ls rfl
  have hV := clv_w hb hR.2.2.1
  refine ⟨h.1, h.2.1, h.2.2.1, fun k r hr => ?_, h.2.2.2.2, N, ls, qC_w hR.1.1 hV, hV.2.2.1 (fun e => nomatch e), ⟨hW, NC, h1, h2, h4, h5⟩, (rfv_w (la := la) hR.2.2.2).1.2.1⟩
  rcases List.mem_append.mp hr with hr | hr
  · exact h.2.2.2.1 k r hr
  · by_cases hk : k ≤ 249
    · exact hk
    · rcases List.mem_append.mp hr with hr | hr
      · unfold qC_fp at hr
        rw [if_neg (by omega), if_neg (by omega), if_neg (by omega), if_neg (by omega), if_neg (by omega), if_neg (by omega)] at hr
        cases hr
      · unfold qL_fx at hr
        rw [if_neg (by omega), if_neg (by omega), if_neg (by omega), if_neg (by omega), if_neg (by omega), if_neg (by omega)] at hr
        cases hr
theorem wkL_s {k1 : Nat} {tt : Bool} (hb : bg g la K R M) (h3 : ¬ la 3 = 0) (hck : w_k qL_O 246 1 k1 tt S = true) (hR : REL la K M N (some ls) A im t w f) (hbc : 6 ≤ bc) (hbs : 600 ≤ bs) (k : mq_K X LX bc bs pc L st Q g (fun la2 K2 M2 => REL la2 K2 M2 N (some ls) A im t w f) (fun u _ => mq_V S u)) : bc_KX X LX 280 (bc - S.1.2.1) (bs - S.1.2.2) 370 pc L st Q qL_O 246 1 g la K M S := by
  have hz : bs_ok la 246 1 := Or.inr (Or.inr ⟨rfl, rfl, h3⟩)
  simp only [w_k, Bool.and_eq_true, decide_eq_true_eq, List.isEmpty_iff] at hck
  obtain ⟨-, -, hbd, hR2, hW⟩ := hck
  intro oc hoc σ u n' K' R' M' _ ho hf hF hfr hb2
  have eR : ∀ k j, k ≤ 245 + 4 * 1 → R' k j = bs_R 246 1 k j := fun k j hk => hfr.2.2.2 k j hk (by rw [hR2]; exact fun h => nomatch h)
  have e0 : ∀ k j, k ≤ 245 → bg_M g M M' k j = M' k j := fun k j hk => bg_Ms hk j
  have e : ∀ k j, k ≤ 245 → ((cK k j ∧ ¬ kpt k j) ∨ rK k j) → bg_M g M M' k j = M k j := fun k j hk h => by
    rw [bg_Ms hk, wk_e hW hfr (by omega) h, vM hk]
  obtain ⟨-, N2, ls2, hq, hkk, -, hlr⟩ := hF.2.2.2.2
  have eN : N2 = N := by
    rw [← hq.2.1.1, ← hR.2.2.1.1.1.2.1]
    exact cs_same fun x j h1 h2 => by
      rw [← e0 x j (by omega)]
      exact e x j (by omega) (Or.inl ⟨by unfold cK; omega, by unfold kpt; omega⟩)
  subst eN
  have e7 : M' 227 = M 227 := funext fun j => by
    rw [← e0 227 j (by decide)]
    exact e 227 j (by decide) (Or.inr (by unfold rK; omega))
  rw [e7] at hlr
  have hl2 := hR.2.2.2.1.2.1
  have ea := aphx_u (N := N2) (h := hts (N2 13)) hlr hl2
  have eb := aphi_u (N := N2) (h := hts (N2 13)) hlr hl2
  have h15 : bg_M g M M' 1 15 = 0 ∨ (bg_M g M M' 1 15 = 1 ∧ ENDS N2 (hts (N2 13)) (aphi (some ls) N2 (hts (N2 13))) (bg_M g M M')) := by
    rw [e0 1 15 (by decide), ← eb]
    exact hq.2.2.imp_right fun hh => ⟨hh.1, ends_x hh.2 (fun k j hk => e0 k j (by omega))⟩
  have hk9 : KFL N2 (aphx (some ls) N2 (hts (N2 13))) (bg_M g M M') := by
    rw [← ea]
    exact kfl_e hkk (e0 200 6 (by decide)) (fun j => e0 205 j (by decide))
  refine gm_Wp_wk (Nat.le_refl _) (by omega) (by omega) (k u _ _ _ _ ⟨oc, hoc, σ, ho⟩ hb2 ⟨hR.1, lwl_e hR.2.1 hb.2.2.2 (fun s hs => ?_) (e 42 1 (by decide) (Or.inl ⟨by unfold cK; omega, by unfold kpt; omega⟩)) (fun k k1 k2 => bg_Ks k2) (fun k j k1 k2 => bg_oldM k1 k2), clv_k hR.2.2.1 (cstF hb2.2.1) (fun k j hk hn => e k j (by have := ck_le hk; omega) (Or.inl ⟨hk, hn⟩)) h15 (fun _ => hk9), rfv_e hR.2.2.2 (fun k j hk => e k j (by have := rk_le hk; omega) (Or.inr hk))⟩)
  show bg_dc la g 0 (R' s 8) = la s
  rw [eR s 8 (by have := bg_ssl hs; omega)]
  exact bg_dcs hz hs
/-- the reference -/
theorem aphi_v (h1 : LAWR lw W) (h2 : LAWR lw2 W) {h : Int → Int} : aphi lw N h = aphi lw2 N h := by
  cases lw with
  | none =>
    cases lw2 with
    | none => rfl
    | some ls2 => exact absurd ((h1.1 rfl).symm.trans (h2.2 ls2 rfl).1.1) (by decide)
  | some ls =>
    cases lw2 with
    | none => exact absurd ((h2.1 rfl).symm.trans (h1.2 ls rfl).1.1) (by decide)
    | some ls2 => exact aphi_u h1 h2
theorem rfv_k (hV : RFV N lw A im t w f M) (e : ∀ k j, rK k j → ¬ k = 235 → ¬ (k = 226 ∧ j = 26) → M2 k j = M k j) (hk : KFR N (aphi lw N (hts (N 13))) M2) : RFV N lw A im t w f M2 := by
  obtain ⟨⟨hT, hL, hH⟩, -, hi, ht, hf⟩ := hV
  have e7 : M2 227 = M 227 := funext fun j => e 227 j (by unfold rK; omega) (by decide) (by omega)
  have e8 : M2 228 = M 228 := funext fun j => e 228 j (by unfold rK; omega) (by decide) (by omega)
  refine ⟨⟨⟨by rw [e7]; exact hT.1, fun y y0 y1 => ?_⟩, by rw [e7]; exact hL, ?_⟩, hk, ?_, ⟨?_, ?_⟩, fun j j0 j1 => ?_⟩
  · rw [e 234 y (by unfold rK; omega) (by decide) (by omega)]
    exact hT.2 y y0 y1
  · rw [e7]
    exact hisr_e hH (e 226 6 (by unfold rK; omega) (by decide) (by decide)) (fun j => e 230 j (by unfold rK; omega) (by decide) (by omega))
  · rw [e 226 5 (by unfold rK; omega) (by decide) (by decide), e8]
    exact hi
  · rw [e 226 8 (by unfold rK; omega) (by decide) (by decide)]; exact ht.1
  · rw [e 226 13 (by unfold rK; omega) (by decide) (by decide)]; exact ht.2
  · rw [e 231 j (by unfold rK; omega) (by decide) (by omega)]; exact hf j j0 j1
theorem bs_qR (hb : bg g la K R M) (hR : REL la K M N lw A im t w f) : gm_Fx qR_O 245 (bs_K la K) (bs_R 100003 0) (bs_M la M) := by
  have h := bs_F0 (z := 100003) hb
  have hV := rfv_w (la := la) hR.2.2.2
  refine ⟨h.1, h.2.1, h.2.2.1, fun k r hr => ?_, h.2.2.2.2, N, lw, hR.1.1, hV.1.1, hV.1.2.1, hV.2.1⟩
  rcases List.mem_append.mp hr with hr | hr
  · exact h.2.2.2.1 k r hr
  · unfold qR_fx at hr
    by_cases hk : k ≤ 245
    · exact hk
    · rw [if_neg (by omega), if_neg (by omega), if_neg (by omega), if_neg (by omega)] at hr
      cases hr
noncomputable def w_kR (S : ck_Sum) : Bool := bc_ok qR_O 100003 0 S && (bc_args S 226 false && (decide (S.1.1 + 1 ≤ 280 ∧ S.1.2.1 ≤ 6 ∧ S.1.2.2 ≤ 600) && (S.2.2.2.2.1.2.isEmpty && S.2.2.2.2.1.1.all fun w => decide (w.1 = 235 ∨ (w.1 = 226 ∧ w.2.1 = 26 ∧ w.2.2 = 26)) || (!cKb w && !rKb w))))
theorem wkR_s (hb : bg g la K R M) (hck : w_kR S = true) (hR : REL la K M N lw A im t w f) (hbc : 6 ≤ bc) (hbs : 600 ≤ bs) (k : mq_K X LX bc bs pc L st Q g (fun la2 K2 M2 => REL la2 K2 M2 N lw A im t w f) (fun u _ => mq_V S u)) : bc_KX X LX 280 (bc - S.1.2.1) (bs - S.1.2.2) 370 pc L st Q qR_O 100003 0 g la K M S := by
  have hz : bs_ok la 100003 0 := Or.inr (Or.inl ⟨rfl, rfl⟩)
  simp only [w_kR, Bool.and_eq_true, decide_eq_true_eq, List.isEmpty_iff] at hck
  obtain ⟨-, -, hbd, hR2, hW⟩ := hck
  intro oc hoc σ u n' K' R' M' _ ho hf hF hfr hb2
  have eR : ∀ k j, k ≤ 245 + 4 * 0 → R' k j = bs_R 100003 0 k j := fun k j hk => hfr.2.2.2 k j hk (by rw [hR2]; exact fun h => nomatch h)
  have e0 : ∀ k j, k ≤ 245 → bg_M g M M' k j = M' k j := fun k j hk => bg_Ms hk j
  have e : ∀ k j, k ≤ 245 → (cK k j ∨ rK k j) → ¬ k = 235 → ¬ (k = 226 ∧ j = 26) → bg_M g M M' k j = M k j := fun k j hk h n1 n2 => by
    rw [bg_Ms hk, hfr.2.2.1 k j (by omega) (fun w hw hh => ?_), vM hk]
    have := List.all_eq_true.mp hW w hw
    simp only [Bool.or_eq_true, Bool.and_eq_true, Bool.not_eq_true', decide_eq_true_eq] at this
    rcases this with h9 | h9
    · omega
    · rcases h with h | h
      · rw [cKb_s h hh] at h9; exact absurd h9.1 (by decide)
      · rw [rKb_s h hh] at h9; exact absurd h9.2 (by decide)
  obtain ⟨-, N2, lw2, hG2, hT2, hL2, hk2⟩ := hF.2.2.2.2
  have e7 : M' 227 = M 227 := funext fun j => by
    rw [← e0 227 j (by decide)]
    exact e 227 j (by decide) (Or.inr (by unfold rK; omega)) (by decide) (by omega)
  have eN : N2 = N := by rw [← hT2.1, e7]; exact hR.2.2.2.1.1.1
  subst eN
  rw [e7] at hL2
  rw [aphi_v (N := N2) (h := hts (N2 13)) hL2 hR.2.2.2.1.2.1] at hk2
  have hk9 : KFR N2 (aphi lw N2 (hts (N2 13))) (bg_M g M M') := kfr_e hk2 (e0 226 26 (by decide)) (fun j => e0 235 j (by decide))
  refine gm_Wp_wk (Nat.le_refl _) (by omega) (by omega) (k u _ _ _ _ ⟨oc, hoc, σ, ho⟩ hb2 ⟨hR.1, lwl_e hR.2.1 hb.2.2.2 (fun s hs => ?_) (e 42 1 (by decide) (Or.inl (by unfold cK; omega)) (by decide) (by decide)) (fun k k1 k2 => bg_Ks k2) (fun k j k1 k2 => bg_oldM k1 k2), clv_e hR.2.2.1 (cstF hb2.2.1) (fun k j hk => e k j (by have := ck_le hk; omega) (Or.inl hk) (by have := ck_le hk; omega) (by have := ck_le hk; omega)), rfv_k hR.2.2.2 (fun k j hk n1 n2 => e k j (by have := rk_le hk; omega) (Or.inr hk) n1 n2) hk9⟩)
  show bg_dc la g 0 (R' s 8) = la s
  rw [eR s 8 (by have := bg_ssl hs; omega)]
  exact bg_dcs hz hs
end KR35
end
/-! 7c36.gl -/
section
/-! ROWS THAT KEEP SOMETHING, again under qL_O (laid by wip/rel/gh2.py). -/
section GHL
variable {X : Int → Int} {LX : Nat}
theorem Q35 : ck_Ok qL_O X LX 35 q35 := q35_s pl_s187_s
theorem Q35n : ck_Ok qL_O X LX 35 q35n := q35n_s pl_s187_s
theorem Q24L : ck_Ok qL_O X LX 24 (q24 1 q24_WL) := q24_L pl_s217_s
theorem Q33_206 : ck_Ok qL_O X LX 33 q33_206 := qL_l pl_s210_s (by decide +kernel)
theorem Q43_206 : ck_Ok qL_O X LX 43 (q43 206) := q43_206 pl_s212_s
theorem Q43n_206 : ck_Ok qL_O X LX 43 (q43n 206) := q43n_206 pl_s212_s
theorem Q32_206 : s32_206 X LX := ⟨q32_206_s Q33_206 Q35 Q43_206, q32n_206_s Q33_206 Q35n Q43n_206, q32m_206_s Q33_206 Q35n q43m_206_s⟩
theorem Q27_206 : ck_Ok qL_O X LX 27 q27_206 := q27_206_s pl_s208_s
theorem Q30_206 : ck_Ok qL_O X LX 30 q30_206 := q30_206_s Q32_206
theorem Q30n_206 : ck_Ok qL_O X LX 30 q30n_206 := q30n_206_s Q32_206
theorem Q148_206 : ck_Ok qL_O X LX 148 q148_206 := q148_206_s Q32_206
theorem Q148n_206 : ck_Ok qL_O X LX 148 q148n_206 := q148n_206_s Q32_206
theorem Q33_207 : ck_Ok qL_O X LX 33 q33_207 := qL_l pl_s723_s (by decide +kernel)
theorem Q43_207 : ck_Ok qL_O X LX 43 (q43 207) := q43_207 pl_s724_s
theorem Q43n_207 : ck_Ok qL_O X LX 43 (q43n 207) := q43n_207 pl_s724_s
theorem Q32_207 : s32_207 X LX := ⟨q32_207_s Q33_207 Q35 Q43_207, q32n_207_s Q33_207 Q35n Q43n_207, q32m_207_s Q33_207 Q35n q43m_207_s⟩
theorem Q27_207 : ck_Ok qL_O X LX 27 q27_207 := q27_207_s pl_s721_s
theorem Q170 : ck_Ok qL_O X LX 170 q170 := q170_s pl_s697_s
theorem Q29 : ck_Ok qL_O X LX 29 q29 := q29_s
theorem Q145 : ck_Ok qL_O X LX 145 q145 := q145_s Q32_206 Q27_206
theorem Q181 : ck_Ok qL_O X LX 181 q181 := q181_s Q32_206 Q32_207 Q27_206 Q27_207
theorem Q143 : ck_Ok qL_O X LX 143 q143 := qL_l pl_s233_s (by decide +kernel)
theorem Q153 : ck_Ok qL_O X LX 153 q153 := qL_l pl_s844_s (by decide +kernel)
theorem Q180 : ck_Ok qL_O X LX 180 q180 := qL_l pl_s718_s (by decide +kernel)
theorem Q221 : ck_Ok qL_O X LX 221 q221 := q221_s Q32_206 Q32_207 Q27_206 Q27_207 Q143 Q153 Q180
theorem qLl_pl_s159 : ck_Ok qL_O X LX 132 pl_s159 := qL_l pl_s159_s (by decide +kernel)
theorem qLl_pl_s167 : ck_Ok qL_O X LX 134 pl_s167 := qL_l pl_s167_s (by decide +kernel)
theorem qLl_pl_s149 : ck_Ok qL_O X LX 129 pl_s149 := qL_l pl_s149_s (by decide +kernel)
noncomputable def q_pl_s188 : ck_Sum := (((24 : Nat), (2 : Nat), (12 : Nat)), (249 : Nat), [.inr (.inr (.inl (1 : Nat))), .inl ((0 : Int), (5 : Int), []), .inl ((0 : Int), (98 : Int), []), .inl ((0 : Int), (299 : Int), [])], ([], [((3 : Nat), (8 : Int), (246 : Nat))], []), ([((200 : Nat), (6 : Int), (6 : Int)), ((204 : Nat), (0 : Int), (9 : Int)), ((205 : Nat), (0 : Int), (14849 : Int))], []), [(.inl (3 : Nat), (249 : Nat), ([], [], [])), (.inr (some (.inl ((0 : Int), (30 : Int), []))), (249 : Nat), ([], [], [((200 : Nat), (6 : Int), (6 : Int), ck_one 0)]))])
set_option maxRecDepth 100000 in
theorem q_pl_s188_s : ck_Ok qL_O X LX 136 q_pl_s188 := ck_okq (cuts := []) (f := 102) ⟨qL_nmu, (ck_E1 (ck_S1 qLl_pl_s159 ck_S0) (ck_E1 (ck_S1 qLl_pl_s167 ck_S0) (ck_E1 (ck_S1 qLl_pl_s149 ck_S0) (ck_E1 (ck_S1 Q35 ck_S0) ck_E0))))⟩ (by decide +kernel)
theorem qLl_pl_s200 : ck_Ok qL_O X LX 9 pl_s200 := qL_l pl_s200_s (by decide +kernel)
theorem qLl_pl_s204 : ck_Ok qL_O X LX 10 pl_s204 := qL_l pl_s204_s (by decide +kernel)
theorem qLl_pl_s220 : ck_Ok qL_O X LX 66 pl_s220 := qL_l pl_s220_s (by decide +kernel)
noncomputable def q_pl_s221 : ck_Sum := (((22 : Nat), (0 : Nat), (0 : Nat)), (249 : Nat), [.inr (.inr (.inl (1 : Nat))), .inl ((0 : Int), (7 : Int), [])], ([], [((3 : Nat), (8 : Int), (246 : Nat))], [((3 : Nat), (6 : Int), (6 : Int), ((0 : Int), (299 : Int), [((10 : Nat), (0 : Int))]))]), ([((1 : Nat), (15 : Int), (15 : Int)), ((200 : Nat), (6 : Int), (6 : Int)), ((204 : Nat), (0 : Int), (9 : Int)), ((205 : Nat), (0 : Int), (14849 : Int)), ((206 : Nat), (2 : Int), (8 : Int)), ((220 : Nat), (3 : Int), (3 : Int)), ((221 : Nat), (0 : Int), (47 : Int))], []), [(.inr (some (.inl ((-2147483648 : Int), (2147483647 : Int), []))), (249 : Nat), ([], [], [((1 : Nat), (15 : Int), (15 : Int), ck_one 1)]))])
set_option maxRecDepth 100000 in
theorem q_pl_s221_s : ck_Ok qL_O X LX 65 q_pl_s221 := ck_okq (cuts := [((8 : Nat), [some (.inr (.inr (.inl (1 : Nat)))), some (.inl ((0 : Int), (7 : Int), [])), some (.inl ((-2147483648 : Int), (2147483647 : Int), [])), some (.inl ((0 : Int), (24 : Int), [])), none], ([], [((3 : Nat), (8 : Int), (246 : Nat))], [((1 : Nat), (15 : Int), (15 : Int), ck_one 1), ((3 : Nat), (6 : Int), (6 : Int), ((0 : Int), (299 : Int), [((10 : Nat), (0 : Int))]))]), (100 : Nat), .inl (3 : Nat), true)]) (f := 210) ⟨qL_nmu, (ck_E1 (ck_S1 Q24L ck_S0) (ck_E1 (ck_S1 qLl_pl_s200 ck_S0) (ck_E1 (ck_S1 qLl_pl_s204 ck_S0) (ck_E1 (ck_S1 qLl_pl_s220 ck_S0) ck_E0))))⟩ (by decide +kernel)
theorem qLl_pl_s197 : ck_Ok qL_O X LX 139 pl_s197 := qL_l pl_s197_s (by decide +kernel)
theorem qLl_pl_s222 : ck_Ok qL_O X LX 140 pl_s222 := qL_l pl_s222_s (by decide +kernel)
theorem qLl_pl_s223 : ck_Ok qL_O X LX 140 pl_s223 := qL_l pl_s223_s (by decide +kernel)
theorem qLl_pl_s224 : ck_Ok qL_O X LX 10 pl_s224 := qL_l pl_s224_s (by decide +kernel)
noncomputable def q_pl_s225 : ck_Sum := (((24 : Nat), (2 : Nat), (12 : Nat)), (249 : Nat), [.inr (.inr (.inl (1 : Nat))), .inl ((0 : Int), (7 : Int), []), .inl ((0 : Int), (9 : Int), [])], ([], [((3 : Nat), (8 : Int), (246 : Nat))], [((3 : Nat), (6 : Int), (6 : Int), ((0 : Int), (299 : Int), [((10 : Nat), (0 : Int))]))]), ([((1 : Nat), (15 : Int), (15 : Int)), ((200 : Nat), (6 : Int), (6 : Int)), ((204 : Nat), (0 : Int), (9 : Int)), ((205 : Nat), (0 : Int), (14849 : Int)), ((206 : Nat), (2 : Int), (8 : Int)), ((220 : Nat), (3 : Int), (3 : Int)), ((221 : Nat), (0 : Int), (47 : Int))], []), [(.inl (3 : Nat), (249 : Nat), ([], [], [])), (.inl (4 : Nat), (249 : Nat), ([], [], [])), (.inr (some (.inl ((-2147483648 : Int), (2147483647 : Int), []))), (249 : Nat), ([], [], []))])
set_option maxRecDepth 100000 in
theorem q_pl_s225_s : ck_Ok qL_O X LX 138 q_pl_s225 := ck_okq (cuts := []) (f := 94) ⟨qL_nmu, (ck_E1 (ck_S1 qLl_pl_s197 ck_S0) (ck_E1 (ck_S1 q_pl_s221_s ck_S0) (ck_E1 (ck_S1 qLl_pl_s222 (ck_S1 qLl_pl_s223 ck_S0)) (ck_E1 (ck_S1 qLl_pl_s224 ck_S0) ck_E0))))⟩ (by decide +kernel)
noncomputable def q_pl_s237 : ck_Sum := (((21 : Nat), (0 : Nat), (0 : Nat)), (249 : Nat), [.inr (.inr (.inl (1 : Nat))), .inl ((0 : Int), (23 : Int), [])], ([], [((3 : Nat), (8 : Int), (246 : Nat))], []), ([((200 : Nat), (6 : Int), (6 : Int)), ((204 : Nat), (0 : Int), (9 : Int)), ((205 : Nat), (0 : Int), (14849 : Int)), ((206 : Nat), (2 : Int), (8 : Int))], []), [(.inr (some (.inl ((-2147483648 : Int), (299 : Int), []))), (249 : Nat), ([], [], [((206 : Nat), (4 : Int), (4 : Int), ck_one (-1)), ((206 : Nat), (2 : Int), (2 : Int), ((-1 : Int), (299 : Int), []))]))])
set_option maxRecDepth 100000 in
theorem q_pl_s237_s : ck_Ok qL_O X LX 144 q_pl_s237 := ck_okq (cuts := []) (f := 88) ⟨qL_nmu, (ck_E1 (ck_S1 Q27_206 ck_S0) (ck_E1 (ck_S1 Q30_206 (ck_S1 Q30n_206 ck_S0)) ck_E0))⟩ (by decide +kernel)
theorem qLl_pl_s233 : ck_Ok qL_O X LX 143 pl_s233 := qL_l pl_s233_s (by decide +kernel)
noncomputable def q_pl_s238 : ck_Sum := (((24 : Nat), (1 : Nat), (6 : Nat)), (249 : Nat), [.inr (.inr (.inl (1 : Nat))), .inl ((0 : Int), (23 : Int), []), .inl ((0 : Int), (9 : Int), [])], ([], [((3 : Nat), (8 : Int), (246 : Nat))], []), ([((200 : Nat), (6 : Int), (6 : Int)), ((204 : Nat), (0 : Int), (9 : Int)), ((205 : Nat), (0 : Int), (14849 : Int)), ((206 : Nat), (2 : Int), (8 : Int))], []), [(.inl (3 : Nat), (249 : Nat), ([], [], [])), (.inr (some (.inl ((-2147483648 : Int), (299 : Int), []))), (249 : Nat), ([], [], [])), (.inr (some (.inl ((0 : Int), (299 : Int), []))), (249 : Nat), ([], [], [((206 : Nat), (4 : Int), (4 : Int), ck_one (-1)), ((206 : Nat), (2 : Int), (2 : Int), ((-1 : Int), (299 : Int), []))]))])
set_option maxRecDepth 100000 in
theorem q_pl_s238_s : ck_Ok qL_O X LX 142 q_pl_s238 := ck_okq (cuts := []) (f := 98) ⟨qL_nmu, (ck_E1 (ck_S1 qLl_pl_s233 ck_S0) (ck_E1 (ck_S1 qLl_pl_s204 ck_S0) (ck_E1 (ck_S1 Q145 ck_S0) (ck_E1 (ck_S1 q_pl_s237_s ck_S0) ck_E0))))⟩ (by decide +kernel)
noncomputable def q_pl_s244 : ck_Sum := (((24 : Nat), (1 : Nat), (6 : Nat)), (249 : Nat), [.inr (.inr (.inl (1 : Nat))), .inl ((0 : Int), (23 : Int), []), .inl ((0 : Int), (299 : Int), [])], ([], [((3 : Nat), (8 : Int), (246 : Nat))], []), ([((200 : Nat), (6 : Int), (6 : Int)), ((204 : Nat), (0 : Int), (9 : Int)), ((205 : Nat), (0 : Int), (14849 : Int)), ((206 : Nat), (2 : Int), (8 : Int))], []), [(.inl (3 : Nat), (249 : Nat), ([], [], [])), (.inr (some (.inl ((-2147483648 : Int), (99 : Int), []))), (249 : Nat), ([], [], []))])
set_option maxRecDepth 100000 in
theorem q_pl_s244_s : ck_Ok qL_O X LX 147 q_pl_s244 := ck_okq (cuts := []) (f := 130) ⟨qL_nmu, (ck_E1 (ck_S1 qLl_pl_s233 ck_S0) (ck_E1 (ck_S1 qLl_pl_s149 ck_S0) (ck_E1 (ck_S1 qLl_pl_s204 ck_S0) (ck_E1 (ck_S1 Q27_206 ck_S0) (ck_E1 (ck_S1 Q148_206 (ck_S1 Q148n_206 ck_S0)) ck_E0)))))⟩ (by decide +kernel)
noncomputable def q_pl_s249 : ck_Sum := (((24 : Nat), (1 : Nat), (6 : Nat)), (249 : Nat), [.inr (.inr (.inl (1 : Nat))), .inl ((0 : Int), (23 : Int), []), .inl ((0 : Int), (299 : Int), [])], ([], [((3 : Nat), (8 : Int), (246 : Nat))], []), ([((200 : Nat), (6 : Int), (6 : Int)), ((204 : Nat), (0 : Int), (9 : Int)), ((205 : Nat), (0 : Int), (14849 : Int)), ((206 : Nat), (2 : Int), (8 : Int))], []), [(.inl (3 : Nat), (249 : Nat), ([], [], [])), (.inr (some (.inl ((0 : Int), (99 : Int), []))), (249 : Nat), ([], [], [((206 : Nat), (4 : Int), (4 : Int), ck_one (-1)), ((206 : Nat), (2 : Int), (2 : Int), ((-1 : Int), (299 : Int), []))])), (.inr (some (.inl (ck_one (-1)))), (249 : Nat), ([], [], []))])
set_option maxRecDepth 100000 in
theorem q_pl_s249_s : ck_Ok qL_O X LX 150 q_pl_s249 := ck_okq (cuts := []) (f := 122) ⟨qL_nmu, (ck_E1 (ck_S1 qLl_pl_s233 ck_S0) (ck_E1 (ck_S1 qLl_pl_s149 ck_S0) (ck_E1 (ck_S1 qLl_pl_s204 ck_S0) (ck_E1 (ck_S1 Q27_206 ck_S0) (ck_E1 (ck_S1 Q148_206 (ck_S1 Q148n_206 ck_S0)) ck_E0)))))⟩ (by decide +kernel)
noncomputable def q_pl_s692 : ck_Sum := (((24 : Nat), (2 : Nat), (12 : Nat)), (249 : Nat), [.inr (.inr (.inl (1 : Nat))), .inl ((0 : Int), (5 : Int), []), .inl ((0 : Int), (299 : Int), []), .inl ((0 : Int), (299 : Int), []), .inl ((0 : Int), (9 : Int), [])], ([], [((3 : Nat), (8 : Int), (246 : Nat))], [((3 : Nat), (6 : Int), (6 : Int), ((0 : Int), (299 : Int), [((10 : Nat), (0 : Int))]))]), ([((200 : Nat), (6 : Int), (6 : Int)), ((204 : Nat), (0 : Int), (9 : Int)), ((205 : Nat), (0 : Int), (14849 : Int)), ((206 : Nat), (2 : Int), (8 : Int))], []), [(.inl (3 : Nat), (249 : Nat), ([], [], [])), (.inl (4 : Nat), (249 : Nat), ([], [], [])), (.inl (0 : Nat), (249 : Nat), ([], [], [((3 : Nat), (6 : Int), (6 : Int), ((1 : Int), (299 : Int), [((10 : Nat), (0 : Int))]))])), (.inr (some (.inl ((-2147483648 : Int), (2147483647 : Int), []))), (249 : Nat), ([], [], []))])
set_option maxRecDepth 100000 in
theorem q_pl_s692_s : ck_Ok qL_O X LX 167 q_pl_s692 := ck_okq (cuts := [((71 : Nat), [some (.inr (.inr (.inl (1 : Nat)))), some (.inl ((0 : Int), (5 : Int), [])), some (.inl ((0 : Int), (299 : Int), [])), some (.inl ((0 : Int), (299 : Int), [])), some (.inl ((0 : Int), (2 : Int), [])), some (.inl ((-2147483648 : Int), (2147483647 : Int), [])), some (.inl ((-1 : Int), (167 : Int), [])), some (.inl ((-1 : Int), (167 : Int), [])), some (.inl ((0 : Int), (167 : Int), []))], ([], [((3 : Nat), (8 : Int), (246 : Nat))], [((3 : Nat), (6 : Int), (6 : Int), ((0 : Int), (299 : Int), [((10 : Nat), (0 : Int))]))]), (100 : Nat), .inl (8 : Nat), true)]) (f := 210) ⟨qL_nmu, (ck_E1 (ck_S1 qLl_pl_s159 ck_S0) (ck_E1 (ck_S1 qLl_pl_s149 ck_S0) (ck_E1 (ck_S1 Q29 ck_S0) (ck_E1 (ck_S1 Q30_206 (ck_S1 Q30n_206 ck_S0)) ck_E0))))⟩ (by decide +kernel)
noncomputable def q_pl_s698 : ck_Sum := (((24 : Nat), (1 : Nat), (6 : Nat)), (249 : Nat), [.inr (.inr (.inl (1 : Nat))), .inl ((0 : Int), (7 : Int), []), .inl ((0 : Int), (299 : Int), [])], ([], [((3 : Nat), (8 : Int), (246 : Nat))], [((3 : Nat), (6 : Int), (6 : Int), ((0 : Int), (299 : Int), [((10 : Nat), (0 : Int))]))]), ([((200 : Nat), (6 : Int), (6 : Int)), ((204 : Nat), (0 : Int), (9 : Int)), ((205 : Nat), (0 : Int), (14849 : Int)), ((206 : Nat), (2 : Int), (8 : Int))], []), [(.inl (3 : Nat), (249 : Nat), ([], [], [])), (.inr (some (.inl (ck_one (-1)))), (249 : Nat), ([], [], [])), (.inr (some (.inl ((0 : Int), (299 : Int), []))), (249 : Nat), ([], [], [((206 : Nat), (4 : Int), (4 : Int), ck_one (-1))]))])
set_option maxRecDepth 100000 in
theorem q_pl_s698_s : ck_Ok qL_O X LX 169 q_pl_s698 := ck_okq (cuts := [((12 : Nat), [some (.inr (.inr (.inl (1 : Nat)))), some (.inl ((0 : Int), (7 : Int), [])), some (.inl ((0 : Int), (299 : Int), [])), some (.inl ((-1 : Int), (299 : Int), []))], ([], [((3 : Nat), (8 : Int), (246 : Nat))], [((3 : Nat), (6 : Int), (6 : Int), ((0 : Int), (299 : Int), [((10 : Nat), (0 : Int))]))]), (100 : Nat), .inl (3 : Nat), false)]) (f := 166) ⟨qL_nmu, (ck_E1 (ck_S1 qLl_pl_s197 ck_S0) (ck_E1 (ck_S1 qLl_pl_s149 ck_S0) (ck_E1 (ck_S1 Q170 ck_S0) (ck_E1 (ck_S1 Q30_206 (ck_S1 Q30n_206 ck_S0)) ck_E0))))⟩ (by decide +kernel)
noncomputable def q_pl_s703 : ck_Sum := (((24 : Nat), (2 : Nat), (12 : Nat)), (249 : Nat), [.inr (.inr (.inl (1 : Nat))), .inl ((0 : Int), (5 : Int), []), .inl ((0 : Int), (299 : Int), [])], ([], [((3 : Nat), (8 : Int), (246 : Nat))], [((3 : Nat), (6 : Int), (6 : Int), ((0 : Int), (299 : Int), [((10 : Nat), (0 : Int))]))]), ([((200 : Nat), (6 : Int), (6 : Int)), ((204 : Nat), (0 : Int), (9 : Int)), ((205 : Nat), (0 : Int), (14849 : Int)), ((206 : Nat), (2 : Int), (8 : Int))], []), [(.inl (3 : Nat), (249 : Nat), ([], [], [])), (.inl (0 : Nat), (249 : Nat), ([], [], [])), (.inr (some (.inl (ck_one (-1)))), (249 : Nat), ([], [], [])), (.inr (some (.inl ((0 : Int), (98 : Int), []))), (249 : Nat), ([], [], [((206 : Nat), (4 : Int), (4 : Int), ck_one (-1))]))])
set_option maxRecDepth 100000 in
theorem q_pl_s703_s : ck_Ok qL_O X LX 172 q_pl_s703 := ck_okq (cuts := [((47 : Nat), [some (.inr (.inr (.inl (1 : Nat)))), some (.inl ((0 : Int), (5 : Int), [])), some (.inl ((1 : Int), (299 : Int), [])), some (.inl ((1 : Int), (299 : Int), [])), some (.inl ((0 : Int), (167 : Int), []))], ([], [((3 : Nat), (8 : Int), (246 : Nat))], [((3 : Nat), (6 : Int), (6 : Int), ((0 : Int), (299 : Int), [((10 : Nat), (0 : Int))]))]), (100 : Nat), .inl (4 : Nat), true)]) (f := 182) ⟨qL_nmu, (ck_E1 (ck_S1 qLl_pl_s159 ck_S0) (ck_E1 (ck_S1 Q29 ck_S0) (ck_E1 (ck_S1 Q30_206 (ck_S1 Q30n_206 ck_S0)) ck_E0)))⟩ (by decide +kernel)
theorem qLl_pl_s137 : ck_Ok qL_O X LX 9 pl_s137 := qL_l pl_s137_s (by decide +kernel)
theorem qLl_pl_s196 : ck_Ok qL_O X LX 133 pl_s196 := qL_l pl_s196_s (by decide +kernel)
theorem qLl_pl_s708 : ck_Ok qL_O X LX 175 pl_s708 := qL_l pl_s708_s (by decide +kernel)
noncomputable def q_pl_s709 : ck_Sum := (((24 : Nat), (2 : Nat), (12 : Nat)), (249 : Nat), [.inr (.inr (.inl (1 : Nat))), .inl ((0 : Int), (23 : Int), []), .inl ((0 : Int), (7 : Int), [])], ([], [((3 : Nat), (8 : Int), (246 : Nat))], []), ([((200 : Nat), (6 : Int), (6 : Int)), ((204 : Nat), (0 : Int), (9 : Int)), ((205 : Nat), (0 : Int), (14849 : Int)), ((206 : Nat), (2 : Int), (8 : Int))], []), [(.inl (3 : Nat), (249 : Nat), ([], [], [])), (.inr (some (.inl ((-2147483648 : Int), (299 : Int), []))), (249 : Nat), ([], [], [((206 : Nat), (4 : Int), (4 : Int), ((0 : Int), (7 : Int), [])), ((206 : Nat), (2 : Int), (2 : Int), ((-1 : Int), (299 : Int), []))]))])
set_option maxRecDepth 100000 in
theorem q_pl_s709_s : ck_Ok qL_O X LX 174 q_pl_s709 := ck_okq (cuts := []) (f := 116) ⟨qL_nmu, (ck_E1 (ck_S1 qLl_pl_s233 ck_S0) (ck_E1 (ck_S1 qLl_pl_s137 ck_S0) (ck_E1 (ck_S1 qLl_pl_s196 ck_S0) (ck_E1 (ck_S1 Q27_206 ck_S0) (ck_E1 (ck_S1 qLl_pl_s708 ck_S0) (ck_E1 (ck_S1 Q30_206 (ck_S1 Q30n_206 ck_S0)) ck_E0))))))⟩ (by decide +kernel)
noncomputable def q_pl_s712 : ck_Sum := (((24 : Nat), (1 : Nat), (6 : Nat)), (249 : Nat), [.inr (.inr (.inl (1 : Nat))), .inl ((0 : Int), (23 : Int), [])], ([], [((3 : Nat), (8 : Int), (246 : Nat))], []), ([((200 : Nat), (6 : Int), (6 : Int)), ((204 : Nat), (0 : Int), (9 : Int)), ((205 : Nat), (0 : Int), (14849 : Int)), ((206 : Nat), (2 : Int), (8 : Int))], []), [(.inl (3 : Nat), (249 : Nat), ([], [], [])), (.inr (some (.inl ((-2147483648 : Int), (-1 : Int), []))), (249 : Nat), ([], [], [((206 : Nat), (8 : Int), (8 : Int), ((-2147483648 : Int), (-1 : Int), [])), ((206 : Nat), (4 : Int), (4 : Int), ck_one (-1)), ((206 : Nat), (2 : Int), (2 : Int), ((-1 : Int), (299 : Int), []))])), (.inr (some (.inl ((0 : Int), (2147483647 : Int), []))), (249 : Nat), ([], [], [((206 : Nat), (8 : Int), (8 : Int), ((0 : Int), (2147483647 : Int), [])), ((206 : Nat), (4 : Int), (4 : Int), ck_one (-1)), ((206 : Nat), (2 : Int), (2 : Int), ((-1 : Int), (299 : Int), []))]))])
set_option maxRecDepth 100000 in
theorem q_pl_s712_s : ck_Ok qL_O X LX 177 q_pl_s712 := ck_okq (cuts := []) (f := 102) ⟨qL_nmu, (ck_E1 (ck_S1 qLl_pl_s233 ck_S0) (ck_E1 (ck_S1 Q27_206 ck_S0) (ck_E1 (ck_S1 Q30_206 (ck_S1 Q30n_206 ck_S0)) ck_E0)))⟩ (by decide +kernel)
theorem qLl_pl_s201 : ck_Ok qL_O X LX 9 pl_s201 := qL_l pl_s201_s (by decide +kernel)
theorem qLl_pl_s218 : ck_Ok qL_O X LX 10 pl_s218 := qL_l pl_s218_s (by decide +kernel)
noncomputable def q_pl_s713 : ck_Sum := (((22 : Nat), (0 : Nat), (0 : Nat)), (249 : Nat), [.inr (.inr (.inl (1 : Nat)))], ([], [((3 : Nat), (8 : Int), (246 : Nat))], []), ([((1 : Nat), (15 : Int), (15 : Int)), ((200 : Nat), (6 : Int), (6 : Int)), ((204 : Nat), (0 : Int), (9 : Int)), ((205 : Nat), (0 : Int), (14849 : Int)), ((206 : Nat), (2 : Int), (8 : Int)), ((220 : Nat), (3 : Int), (3 : Int)), ((221 : Nat), (0 : Int), (47 : Int))], []), [(.inr (some (.inl ((-2147483648 : Int), (2147483647 : Int), []))), (249 : Nat), ([], [], [((1 : Nat), (15 : Int), (15 : Int), ck_one 1)]))])
set_option maxRecDepth 100000 in
theorem q_pl_s713_s : ck_Ok qL_O X LX 23 q_pl_s713 := ck_okq (cuts := [((8 : Nat), [some (.inr (.inr (.inl (1 : Nat)))), some (.inl ((-2147483648 : Int), (2147483647 : Int), [])), some (.inl ((0 : Int), (24 : Int), []))], ([], [((3 : Nat), (8 : Int), (246 : Nat))], [((1 : Nat), (15 : Int), (15 : Int), ck_one 1)]), (100 : Nat), .inl (2 : Nat), true)]) (f := 174) ⟨qL_nmu, (ck_E1 (ck_S1 Q24L ck_S0) (ck_E1 (ck_S1 qLl_pl_s201 ck_S0) (ck_E1 (ck_S1 qLl_pl_s218 ck_S0) ck_E0)))⟩ (by decide +kernel)
theorem qLl_pl_s714 : ck_Ok qL_O X LX 47 pl_s714 := qL_l pl_s714_s (by decide +kernel)
noncomputable def q_pl_s715 : ck_Sum := (((22 : Nat), (0 : Nat), (0 : Nat)), (249 : Nat), [.inr (.inr (.inl (1 : Nat))), .inl ((0 : Int), (1 : Int), [])], ([], [((3 : Nat), (8 : Int), (246 : Nat))], []), ([((1 : Nat), (15 : Int), (15 : Int)), ((200 : Nat), (6 : Int), (6 : Int)), ((204 : Nat), (0 : Int), (9 : Int)), ((205 : Nat), (0 : Int), (14849 : Int)), ((206 : Nat), (2 : Int), (8 : Int)), ((220 : Nat), (3 : Int), (3 : Int)), ((221 : Nat), (0 : Int), (47 : Int))], []), [(.inr (some (.inl ((-2147483648 : Int), (299 : Int), []))), (249 : Nat), ([], [], [((1 : Nat), (15 : Int), (15 : Int), ck_one 1)])), (.inr (some (.inl ((0 : Int), (2147483647 : Int), []))), (249 : Nat), ([], [], [((1 : Nat), (15 : Int), (15 : Int), ck_one 1)]))])
set_option maxRecDepth 100000 in
theorem q_pl_s715_s : ck_Ok qL_O X LX 46 q_pl_s715 := ck_okq (cuts := [((11 : Nat), [some (.inr (.inr (.inl (1 : Nat)))), some (.inl ((0 : Int), (1 : Int), [])), some (.inl ((-2147483648 : Int), (299 : Int), [])), some (.inl ((0 : Int), (2147483647 : Int), [])), some (.inl ((0 : Int), (24 : Int), [])), none, none], ([], [((3 : Nat), (8 : Int), (246 : Nat))], [((1 : Nat), (15 : Int), (15 : Int), ck_one 1)]), (100 : Nat), .inl (4 : Nat), true)]) (f := 230) ⟨qL_nmu, (ck_E1 (ck_S1 Q24L ck_S0) (ck_E1 (ck_S1 qLl_pl_s201 ck_S0) (ck_E1 (ck_S1 qLl_pl_s218 ck_S0) (ck_E1 (ck_S1 qLl_pl_s714 ck_S0) ck_E0))))⟩ (by decide +kernel)
theorem qLl_pl_s718 : ck_Ok qL_O X LX 180 pl_s718 := qL_l pl_s718_s (by decide +kernel)
noncomputable def q_pl_s731 : ck_Sum := (((24 : Nat), (1 : Nat), (6 : Nat)), (249 : Nat), [.inr (.inr (.inl (1 : Nat))), .inl ((0 : Int), (23 : Int), [])], ([], [((3 : Nat), (8 : Int), (246 : Nat))], []), ([((200 : Nat), (6 : Int), (6 : Int)), ((204 : Nat), (0 : Int), (9 : Int)), ((205 : Nat), (0 : Int), (14849 : Int)), ((206 : Nat), (2 : Int), (8 : Int)), ((207 : Nat), (2 : Int), (8 : Int))], []), [(.inl (3 : Nat), (249 : Nat), ([], [], [])), (.inr (some (.inl ((-2147483648 : Int), (2147483647 : Int), []))), (249 : Nat), ([], [], []))])
set_option maxRecDepth 100000 in
theorem q_pl_s731_s : ck_Ok qL_O X LX 179 q_pl_s731 := ck_okq (cuts := [((9 : Nat), [some (.inr (.inr (.inl (1 : Nat)))), some (.inl ((0 : Int), (23 : Int), [])), some (.inl ((-2147483648 : Int), (2147483647 : Int), [])), some (.inl ((0 : Int), (24 : Int), []))], ([], [((3 : Nat), (8 : Int), (246 : Nat))], []), (100 : Nat), .inl (3 : Nat), true)]) (f := 182) ⟨qL_nmu, (ck_E1 (ck_S1 qLl_pl_s233 ck_S0) (ck_E1 (ck_S1 qLl_pl_s200 ck_S0) (ck_E1 (ck_S1 qLl_pl_s718 ck_S0) (ck_E1 (ck_S1 Q181 ck_S0) ck_E0))))⟩ (by decide +kernel)
noncomputable def q_pl_s743 : ck_Sum := (((21 : Nat), (0 : Nat), (0 : Nat)), (249 : Nat), [.inr (.inr (.inl (1 : Nat))), .inl ((0 : Int), (7 : Int), []), .inl ((0 : Int), (5 : Int), []), .inl ((0 : Int), (299 : Int), []), .inl ((0 : Int), (99 : Int), [])], ([], [((3 : Nat), (8 : Int), (246 : Nat))], []), ([((200 : Nat), (6 : Int), (6 : Int)), ((204 : Nat), (0 : Int), (9 : Int)), ((205 : Nat), (0 : Int), (14849 : Int)), ((206 : Nat), (2 : Int), (8 : Int))], []), [(.inr (some (.inl (ck_one (-1)))), (249 : Nat), ([], [], [])), (.inr (some (.inl ((0 : Int), (298 : Int), []))), (249 : Nat), ([], [], [((206 : Nat), (4 : Int), (4 : Int), ck_one (-1))]))])
set_option maxRecDepth 100000 in
theorem q_pl_s743_s : ck_Ok qL_O X LX 188 q_pl_s743 := ck_okq (cuts := [((23 : Nat), [some (.inr (.inr (.inl (1 : Nat)))), some (.inl ((0 : Int), (7 : Int), [])), some (.inl ((0 : Int), (5 : Int), [])), some (.inl ((0 : Int), (299 : Int), [])), some (.inl ((0 : Int), (99 : Int), [])), some (.inl ((-1 : Int), (298 : Int), []))], ([], [((3 : Nat), (8 : Int), (246 : Nat))], []), (100 : Nat), .inl (5 : Nat), false)]) (f := 174) ⟨qL_nmu, (ck_E1 (ck_S1 qLl_pl_s224 ck_S0) (ck_E1 (ck_S1 Q170 ck_S0) (ck_E1 (ck_S1 Q30_206 (ck_S1 Q30n_206 ck_S0)) ck_E0)))⟩ (by decide +kernel)
theorem qLl_pl_s742 : ck_Ok qL_O X LX 187 pl_s742 := qL_l pl_s742_s (by decide +kernel)
theorem qLl_pl_s189 : ck_Ok qL_O X LX 9 pl_s189 := qL_l pl_s189_s (by decide +kernel)
noncomputable def q_pl_s744 : ck_Sum := (((24 : Nat), (1 : Nat), (6 : Nat)), (249 : Nat), [.inr (.inr (.inl (1 : Nat))), .inl ((0 : Int), (5 : Int), []), .inl ((0 : Int), (299 : Int), []), .inl ((0 : Int), (99 : Int), [])], ([], [((3 : Nat), (8 : Int), (246 : Nat))], []), ([((200 : Nat), (6 : Int), (6 : Int)), ((204 : Nat), (0 : Int), (9 : Int)), ((205 : Nat), (0 : Int), (14849 : Int)), ((206 : Nat), (2 : Int), (8 : Int))], []), [(.inl (3 : Nat), (249 : Nat), ([], [], [])), (.inr (some (.inl ((-2147483648 : Int), (2147483647 : Int), []))), (249 : Nat), ([], [], []))])
set_option maxRecDepth 100000 in
theorem q_pl_s744_s : ck_Ok qL_O X LX 186 q_pl_s744 := ck_okq (cuts := [((17 : Nat), [some (.inr (.inr (.inl (1 : Nat)))), some (.inl ((0 : Int), (5 : Int), [])), some (.inl ((0 : Int), (299 : Int), [])), some (.inl ((0 : Int), (99 : Int), [])), some (.inl ((-2147483648 : Int), (2147483647 : Int), [])), some (.inl ((0 : Int), (9 : Int), []))], ([], [((3 : Nat), (8 : Int), (246 : Nat))], []), (100 : Nat), .inl (5 : Nat), true)]) (f := 182) ⟨qL_nmu, (ck_E1 (ck_S1 qLl_pl_s159 ck_S0) (ck_E1 (ck_S1 qLl_pl_s742 ck_S0) (ck_E1 (ck_S1 qLl_pl_s189 ck_S0) (ck_E1 (ck_S1 q_pl_s743_s ck_S0) ck_E0))))⟩ (by decide +kernel)
noncomputable def q_pl_s753 : ck_Sum := (((24 : Nat), (2 : Nat), (12 : Nat)), (249 : Nat), [.inr (.inr (.inl (1 : Nat))), .inl ((0 : Int), (7 : Int), []), .inl ((0 : Int), (5 : Int), []), .inl ((0 : Int), (299 : Int), []), .inl ((0 : Int), (99 : Int), [])], ([], [((3 : Nat), (8 : Int), (246 : Nat))], []), ([((200 : Nat), (6 : Int), (6 : Int)), ((204 : Nat), (0 : Int), (9 : Int)), ((205 : Nat), (0 : Int), (14849 : Int)), ((206 : Nat), (2 : Int), (8 : Int))], []), [(.inl (3 : Nat), (249 : Nat), ([], [], [])), (.inr (some (.inl (ck_one (-1)))), (249 : Nat), ([], [], [])), (.inr (some (.inl ((0 : Int), (298 : Int), []))), (249 : Nat), ([], [], [((206 : Nat), (4 : Int), (4 : Int), ck_one (-1))]))])
set_option maxRecDepth 100000 in
theorem q_pl_s753_s : ck_Ok qL_O X LX 190 q_pl_s753 := ck_okq (cuts := []) (f := 104) ⟨qL_nmu, (ck_E1 (ck_S1 qLl_pl_s197 ck_S0) (ck_E1 (ck_S1 qLl_pl_s159 ck_S0) (ck_E1 (ck_S1 qLl_pl_s742 ck_S0) (ck_E1 (ck_S1 q_pl_s743_s ck_S0) ck_E0))))⟩ (by decide +kernel)
theorem qLl_pl_s787 : ck_Ok qL_O X LX 10 pl_s787 := qL_l pl_s787_s (by decide +kernel)
theorem qLl_pl_s788 : ck_Ok qL_O X LX 45 pl_s788 := qL_l pl_s788_s (by decide +kernel)
theorem qLl_pl_s789 : ck_Ok qL_O X LX 45 pl_s789 := qL_l pl_s789_s (by decide +kernel)
noncomputable def q_pl_s790 : ck_Sum := (((21 : Nat), (0 : Nat), (0 : Nat)), (249 : Nat), [.inr (.inr (.inl (208 : Nat))), .inl ((0 : Int), (7 : Int), []), .inl ((0 : Int), (299 : Int), []), .inl (ck_one 1), .inl (ck_one 299)], ([], [((3 : Nat), (8 : Int), (246 : Nat))], []), ([((200 : Nat), (6 : Int), (6 : Int)), ((204 : Nat), (0 : Int), (9 : Int)), ((205 : Nat), (0 : Int), (14849 : Int)), ((206 : Nat), (2 : Int), (8 : Int)), ((210 : Nat), (0 : Int), (2399 : Int)), ((212 : Nat), (0 : Int), (2399 : Int))], []), [(.inr none, (249 : Nat), ([], [], [((206 : Nat), (4 : Int), (4 : Int), ck_one (-1))]))])
set_option maxRecDepth 100000 in
theorem q_pl_s790_s : ck_Ok qL_O X LX 203 q_pl_s790 := ck_okq (cuts := [((59 : Nat), [some (.inr (.inr (.inl (208 : Nat)))), some (.inl ((0 : Int), (7 : Int), [])), some (.inl ((0 : Int), (299 : Int), [])), some (.inl (ck_one 1)), some (.inl (ck_one 299)), some (.inr (.inr (.inl (8 : Nat)))), some (.inl ((-1 : Int), (98 : Int), [])), some (.inl ((-2147483648 : Int), (299 : Int), [])), some (.inl ((0 : Int), (8 : Int), [])), none], ([], [((3 : Nat), (8 : Int), (246 : Nat))], [((206 : Nat), (4 : Int), (4 : Int), ck_one (-1))]), (100 : Nat), .inl (8 : Nat), true)]) (f := 214) ⟨qL_nmu, (ck_E1 (ck_S1 qLl_pl_s224 (ck_S1 qLl_pl_s787 ck_S0)) (ck_E1 (ck_S1 Q170 ck_S0) (ck_E1 (ck_S1 Q30_206 (ck_S1 Q30n_206 ck_S0)) (ck_E1 (ck_S1 qLl_pl_s788 (ck_S1 qLl_pl_s789 ck_S0)) (ck_E1 (ck_S1 qLl_pl_s189 ck_S0) ck_E0)))))⟩ (by decide +kernel)
theorem qLl_pl_s791 : ck_Ok qL_O X LX 45 pl_s791 := qL_l pl_s791_s (by decide +kernel)
theorem qLl_pl_s792 : ck_Ok qL_O X LX 45 pl_s792 := qL_l pl_s792_s (by decide +kernel)
noncomputable def q_pl_s793 : ck_Sum := (((21 : Nat), (0 : Nat), (0 : Nat)), (249 : Nat), [.inr (.inr (.inl (208 : Nat))), .inl ((0 : Int), (7 : Int), []), .inl ((2 : Int), (299 : Int), []), .inl ((-2147483648 : Int), (2147483647 : Int), []), .inl (ck_one 299)], ([], [((3 : Nat), (8 : Int), (246 : Nat))], []), ([((200 : Nat), (6 : Int), (6 : Int)), ((204 : Nat), (0 : Int), (9 : Int)), ((205 : Nat), (0 : Int), (14849 : Int)), ((206 : Nat), (2 : Int), (8 : Int)), ((210 : Nat), (0 : Int), (2399 : Int)), ((212 : Nat), (2 : Int), (299 : Int)), ((212 : Nat), (302 : Int), (599 : Int)), ((212 : Nat), (602 : Int), (899 : Int)), ((212 : Nat), (902 : Int), (1199 : Int)), ((212 : Nat), (1202 : Int), (1499 : Int)), ((212 : Nat), (1502 : Int), (1799 : Int)), ((212 : Nat), (1802 : Int), (2099 : Int)), ((212 : Nat), (2102 : Int), (2399 : Int))], []), [(.inr none, (249 : Nat), ([], [], [((206 : Nat), (4 : Int), (4 : Int), ck_one (-1))]))])
set_option maxRecDepth 100000 in
theorem q_pl_s793_s : ck_Ok qL_O X LX 203 q_pl_s793 := ck_okq (cuts := [((59 : Nat), [some (.inr (.inr (.inl (208 : Nat)))), some (.inl ((0 : Int), (7 : Int), [])), some (.inl ((2 : Int), (299 : Int), [])), some (.inl ((-2147483648 : Int), (2147483647 : Int), [])), some (.inl (ck_one 299)), some (.inr (.inr (.inl (8 : Nat)))), some (.inl ((-1 : Int), (98 : Int), [])), some (.inl ((-2147483648 : Int), (299 : Int), [])), some (.inl ((0 : Int), (8 : Int), [])), none], ([], [((3 : Nat), (8 : Int), (246 : Nat))], [((206 : Nat), (4 : Int), (4 : Int), ck_one (-1))]), (100 : Nat), .inl (8 : Nat), true)]) (f := 214) ⟨qL_nmu, (ck_E1 (ck_S1 qLl_pl_s224 (ck_S1 qLl_pl_s787 ck_S0)) (ck_E1 (ck_S1 Q170 ck_S0) (ck_E1 (ck_S1 Q30_206 (ck_S1 Q30n_206 ck_S0)) (ck_E1 (ck_S1 qLl_pl_s791 (ck_S1 qLl_pl_s792 ck_S0)) (ck_E1 (ck_S1 qLl_pl_s189 ck_S0) ck_E0)))))⟩ (by decide +kernel)
theorem qLl_pl_s784 : ck_Ok qL_O X LX 25 pl_s784 := qL_l pl_s784_s (by decide +kernel)
theorem qLl_pl_s786 : ck_Ok qL_O X LX 25 pl_s786 := qL_l pl_s786_s (by decide +kernel)
noncomputable def q_pl_s794 : ck_Sum := (((22 : Nat), (0 : Nat), (0 : Nat)), (249 : Nat), [.inr (.inr (.inl (208 : Nat))), .inl ((0 : Int), (7 : Int), []), .inl ((0 : Int), (7 : Int), []), .inl (ck_one 299)], ([], [((3 : Nat), (8 : Int), (246 : Nat))], [((3 : Nat), (6 : Int), (6 : Int), ((0 : Int), (299 : Int), [((10 : Nat), (0 : Int))]))]), ([((200 : Nat), (6 : Int), (6 : Int)), ((204 : Nat), (0 : Int), (9 : Int)), ((205 : Nat), (0 : Int), (14849 : Int)), ((206 : Nat), (2 : Int), (8 : Int)), ((209 : Nat), (3 : Int), (3 : Int)), ((210 : Nat), (0 : Int), (2399 : Int)), ((211 : Nat), (3 : Int), (3 : Int)), ((212 : Nat), (0 : Int), (2399 : Int))], []), [(.inr none, (249 : Nat), ([], [], [((206 : Nat), (4 : Int), (4 : Int), ck_one (-1))]))])
set_option maxRecDepth 100000 in
theorem q_pl_s794_s : ck_Ok qL_O X LX 202 q_pl_s794 := ck_okq (cuts := [((59 : Nat), [some (.inr (.inr (.inl (208 : Nat)))), some (.inl ((0 : Int), (7 : Int), [])), some (.inl ((0 : Int), (7 : Int), [])), some (.inl (ck_one 299)), some (.inl ((1 : Int), (300 : Int), [((1000010 : Nat), (1 : Int))])), none, none], ([], [((3 : Nat), (8 : Int), (246 : Nat))], [((206 : Nat), (4 : Int), (4 : Int), ck_one (-1)), ((3 : Nat), (6 : Int), (6 : Int), ((0 : Int), (299 : Int), [((10 : Nat), (0 : Int))]))]), (100 : Nat), .inl (4 : Nat), true), ((82 : Nat), [some (.inr (.inr (.inl (208 : Nat)))), some (.inl ((0 : Int), (7 : Int), [])), some (.inl ((0 : Int), (7 : Int), [])), some (.inl (ck_one 299)), some (.inl ((1 : Int), (298 : Int), [((100 : Nat), (0 : Int)), ((1000010 : Nat), (1 : Int))])), some (.inl ((0 : Int), (8 : Int), [])), none], ([], [((3 : Nat), (8 : Int), (246 : Nat))], [((206 : Nat), (4 : Int), (4 : Int), ck_one (-1)), ((3 : Nat), (6 : Int), (6 : Int), ((0 : Int), (299 : Int), [((10 : Nat), (0 : Int))]))]), (300 : Nat), .inl (5 : Nat), true)]) (f := 284) ⟨qL_nmu, (ck_E1 (ck_S1 qLl_pl_s189 ck_S0) (ck_E1 (ck_S1 qLl_pl_s784 (ck_S1 qLl_pl_s786 ck_S0)) (ck_E1 (ck_S1 q_pl_s790_s (ck_S1 q_pl_s793_s ck_S0)) (ck_E1 (ck_S1 qLl_pl_s787 ck_S0) ck_E0))))⟩ (by decide +kernel)
theorem qLl_pl_s254 : ck_Ok qL_O X LX 153 pl_s254 := qL_l pl_s254_s (by decide +kernel)
theorem qLl_pl_s795 : ck_Ok qL_O X LX 204 pl_s795 := qL_l pl_s795_s (by decide +kernel)
theorem qLl_pl_s796 : ck_Ok qL_O X LX 205 pl_s796 := qL_l pl_s796_s (by decide +kernel)
noncomputable def q_pl_s797 : ck_Sum := (((24 : Nat), (3 : Nat), (18 : Nat)), (249 : Nat), [.inr (.inr (.inl (1 : Nat))), .inl ((0 : Int), (7 : Int), []), .inl ((0 : Int), (7 : Int), []), .inl ((0 : Int), (1 : Int), [])], ([], [((3 : Nat), (8 : Int), (246 : Nat))], [((3 : Nat), (6 : Int), (6 : Int), ((0 : Int), (299 : Int), [((10 : Nat), (0 : Int))]))]), ([((200 : Nat), (6 : Int), (6 : Int)), ((204 : Nat), (0 : Int), (9 : Int)), ((205 : Nat), (0 : Int), (14849 : Int)), ((206 : Nat), (2 : Int), (8 : Int)), ((209 : Nat), (3 : Int), (3 : Int)), ((210 : Nat), (0 : Int), (2399 : Int)), ((211 : Nat), (3 : Int), (3 : Int)), ((212 : Nat), (0 : Int), (2399 : Int))], []), [(.inl (3 : Nat), (249 : Nat), ([], [], [])), (.inl (0 : Nat), (249 : Nat), ([], [], [])), (.inr (some (.inl ((-2147483648 : Int), (2147483647 : Int), []))), (249 : Nat), ([], [], [((206 : Nat), (4 : Int), (4 : Int), ck_one (-1))])), (.inr (some (.inl ((0 : Int), (299 : Int), []))), (249 : Nat), ([], [], [((206 : Nat), (4 : Int), (4 : Int), ck_one (-1))]))])
set_option maxRecDepth 100000 in
theorem q_pl_s797_s : ck_Ok qL_O X LX 201 q_pl_s797 := ck_okq (cuts := []) (f := 136) ⟨qL_nmu, (ck_E1 (ck_S1 qLl_pl_s197 ck_S0) (ck_E1 (ck_S1 qLl_pl_s254 ck_S0) (ck_E1 (ck_S1 q_pl_s794_s ck_S0) (ck_E1 (ck_S1 qLl_pl_s795 ck_S0) (ck_E1 (ck_S1 qLl_pl_s796 ck_S0) ck_E0)))))⟩ (by decide +kernel)
theorem qLl_pl_s804 : ck_Ok qL_O X LX 208 pl_s804 := qL_l pl_s804_s (by decide +kernel)
noncomputable def q_pl_s805 : ck_Sum := (((24 : Nat), (4 : Nat), (24 : Nat)), (249 : Nat), [.inr (.inr (.inl (1 : Nat))), .inl ((0 : Int), (7 : Int), []), .inl ((0 : Int), (7 : Int), []), .inl ((-2147483648 : Int), (0 : Int), [])], ([], [((3 : Nat), (8 : Int), (246 : Nat))], [((3 : Nat), (6 : Int), (6 : Int), ((0 : Int), (299 : Int), [((10 : Nat), (0 : Int))]))]), ([((200 : Nat), (6 : Int), (6 : Int)), ((204 : Nat), (0 : Int), (9 : Int)), ((205 : Nat), (0 : Int), (14849 : Int)), ((206 : Nat), (2 : Int), (8 : Int)), ((209 : Nat), (3 : Int), (3 : Int)), ((210 : Nat), (0 : Int), (2399 : Int)), ((211 : Nat), (3 : Int), (3 : Int)), ((212 : Nat), (0 : Int), (2399 : Int))], []), [(.inl (3 : Nat), (249 : Nat), ([], [], [])), (.inl (0 : Nat), (249 : Nat), ([], [], [])), (.inr (some (.inl (ck_one (-1)))), (249 : Nat), ([], [], [((206 : Nat), (4 : Int), (4 : Int), ck_one (-1))])), (.inr (some (.inl ((0 : Int), (7 : Int), []))), (249 : Nat), ([], [], [((206 : Nat), (4 : Int), (4 : Int), ck_one (-1))]))])
set_option maxRecDepth 100000 in
theorem q_pl_s805_s : ck_Ok qL_O X LX 207 q_pl_s805 := ck_okq (cuts := []) (f := 120) ⟨qL_nmu, (ck_E1 (ck_S1 qLl_pl_s197 ck_S0) (ck_E1 (ck_S1 qLl_pl_s254 ck_S0) (ck_E1 (ck_S1 q_pl_s794_s ck_S0) (ck_E1 (ck_S1 qLl_pl_s804 ck_S0) ck_E0))))⟩ (by decide +kernel)
theorem qLl_pl_s807 : ck_Ok qL_O X LX 208 pl_s807 := qL_l pl_s807_s (by decide +kernel)
noncomputable def q_pl_s808 : ck_Sum := (((24 : Nat), (3 : Nat), (18 : Nat)), (249 : Nat), [.inr (.inr (.inl (1 : Nat))), .inl ((0 : Int), (7 : Int), []), .inl ((0 : Int), (7 : Int), []), .inl ((51 : Int), (2147483647 : Int), [])], ([], [((3 : Nat), (8 : Int), (246 : Nat))], [((3 : Nat), (6 : Int), (6 : Int), ((0 : Int), (299 : Int), [((10 : Nat), (0 : Int))]))]), ([((200 : Nat), (6 : Int), (6 : Int)), ((204 : Nat), (0 : Int), (9 : Int)), ((205 : Nat), (0 : Int), (14849 : Int)), ((206 : Nat), (2 : Int), (8 : Int)), ((209 : Nat), (3 : Int), (3 : Int)), ((210 : Nat), (0 : Int), (2399 : Int)), ((211 : Nat), (3 : Int), (3 : Int)), ((212 : Nat), (0 : Int), (2399 : Int))], []), [(.inl (3 : Nat), (249 : Nat), ([], [], [])), (.inl (0 : Nat), (249 : Nat), ([], [], [])), (.inr (some (.inl (ck_one (-1)))), (249 : Nat), ([], [], [((206 : Nat), (4 : Int), (4 : Int), ck_one (-1))])), (.inr (some (.inl ((0 : Int), (2398 : Int), []))), (249 : Nat), ([], [], [((206 : Nat), (4 : Int), (4 : Int), ck_one (-1))]))])
set_option maxRecDepth 100000 in
theorem q_pl_s808_s : ck_Ok qL_O X LX 207 q_pl_s808 := ck_okq (cuts := []) (f := 120) ⟨qL_nmu, (ck_E1 (ck_S1 qLl_pl_s197 ck_S0) (ck_E1 (ck_S1 qLl_pl_s254 ck_S0) (ck_E1 (ck_S1 q_pl_s794_s ck_S0) (ck_E1 (ck_S1 qLl_pl_s807 ck_S0) ck_E0))))⟩ (by decide +kernel)
theorem qLl_pl_s809 : ck_Ok qL_O X LX 208 pl_s809 := qL_l pl_s809_s (by decide +kernel)
noncomputable def q_pl_s810 : ck_Sum := (((24 : Nat), (3 : Nat), (18 : Nat)), (249 : Nat), [.inr (.inr (.inl (1 : Nat))), .inl ((0 : Int), (7 : Int), []), .inl ((0 : Int), (7 : Int), []), .inl ((1 : Int), (50 : Int), [])], ([], [((3 : Nat), (8 : Int), (246 : Nat))], [((3 : Nat), (6 : Int), (6 : Int), ((0 : Int), (299 : Int), [((10 : Nat), (0 : Int))]))]), ([((200 : Nat), (6 : Int), (6 : Int)), ((204 : Nat), (0 : Int), (9 : Int)), ((205 : Nat), (0 : Int), (14849 : Int)), ((206 : Nat), (2 : Int), (8 : Int)), ((209 : Nat), (3 : Int), (3 : Int)), ((210 : Nat), (0 : Int), (2399 : Int)), ((211 : Nat), (3 : Int), (3 : Int)), ((212 : Nat), (0 : Int), (2399 : Int))], []), [(.inl (3 : Nat), (249 : Nat), ([], [], [])), (.inl (0 : Nat), (249 : Nat), ([], [], [])), (.inr (some (.inl (ck_one (-1)))), (249 : Nat), ([], [], [((206 : Nat), (4 : Int), (4 : Int), ck_one (-1))])), (.inr (some (.inl ((0 : Int), (2398 : Int), []))), (249 : Nat), ([], [], [((206 : Nat), (4 : Int), (4 : Int), ck_one (-1))]))])
set_option maxRecDepth 100000 in
theorem q_pl_s810_s : ck_Ok qL_O X LX 207 q_pl_s810 := ck_okq (cuts := []) (f := 120) ⟨qL_nmu, (ck_E1 (ck_S1 qLl_pl_s197 ck_S0) (ck_E1 (ck_S1 qLl_pl_s254 ck_S0) (ck_E1 (ck_S1 q_pl_s794_s ck_S0) (ck_E1 (ck_S1 qLl_pl_s809 ck_S0) ck_E0))))⟩ (by decide +kernel)
noncomputable def q_pl_s815 : ck_Sum := (((21 : Nat), (0 : Nat), (0 : Nat)), (249 : Nat), [.inr (.inr (.inl (208 : Nat))), .inl ((0 : Int), (7 : Int), []), .inl ((0 : Int), (299 : Int), []), .inl (ck_one 1), .inl ((0 : Int), (299 : Int), [])], ([], [((3 : Nat), (8 : Int), (246 : Nat))], []), ([((200 : Nat), (6 : Int), (6 : Int)), ((204 : Nat), (0 : Int), (9 : Int)), ((205 : Nat), (0 : Int), (14849 : Int)), ((206 : Nat), (2 : Int), (8 : Int)), ((210 : Nat), (0 : Int), (2399 : Int)), ((212 : Nat), (0 : Int), (2399 : Int))], []), [(.inr none, (249 : Nat), ([], [], [((206 : Nat), (4 : Int), (4 : Int), ck_one (-1))]))])
set_option maxRecDepth 100000 in
theorem q_pl_s815_s : ck_Ok qL_O X LX 203 q_pl_s815 := ck_okq (cuts := [((59 : Nat), [some (.inr (.inr (.inl (208 : Nat)))), some (.inl ((0 : Int), (7 : Int), [])), some (.inl ((0 : Int), (299 : Int), [])), some (.inl (ck_one 1)), some (.inl ((0 : Int), (299 : Int), [])), some (.inr (.inr (.inl (8 : Nat)))), some (.inl ((-1 : Int), (98 : Int), [])), some (.inl ((-2147483648 : Int), (299 : Int), [])), some (.inl ((0 : Int), (8 : Int), [])), none], ([], [((3 : Nat), (8 : Int), (246 : Nat))], [((206 : Nat), (4 : Int), (4 : Int), ck_one (-1))]), (100 : Nat), .inl (8 : Nat), true)]) (f := 214) ⟨qL_nmu, (ck_E1 (ck_S1 qLl_pl_s224 (ck_S1 qLl_pl_s787 ck_S0)) (ck_E1 (ck_S1 Q170 ck_S0) (ck_E1 (ck_S1 Q30_206 (ck_S1 Q30n_206 ck_S0)) (ck_E1 (ck_S1 qLl_pl_s788 (ck_S1 qLl_pl_s789 ck_S0)) (ck_E1 (ck_S1 qLl_pl_s189 ck_S0) ck_E0)))))⟩ (by decide +kernel)
noncomputable def q_pl_s816 : ck_Sum := (((21 : Nat), (0 : Nat), (0 : Nat)), (249 : Nat), [.inr (.inr (.inl (208 : Nat))), .inl ((0 : Int), (7 : Int), []), .inl ((2 : Int), (299 : Int), []), .inl ((-2147483648 : Int), (2147483647 : Int), []), .inl ((2 : Int), (299 : Int), [])], ([], [((3 : Nat), (8 : Int), (246 : Nat))], []), ([((200 : Nat), (6 : Int), (6 : Int)), ((204 : Nat), (0 : Int), (9 : Int)), ((205 : Nat), (0 : Int), (14849 : Int)), ((206 : Nat), (2 : Int), (8 : Int)), ((210 : Nat), (0 : Int), (2399 : Int)), ((212 : Nat), (2 : Int), (299 : Int)), ((212 : Nat), (302 : Int), (599 : Int)), ((212 : Nat), (602 : Int), (899 : Int)), ((212 : Nat), (902 : Int), (1199 : Int)), ((212 : Nat), (1202 : Int), (1499 : Int)), ((212 : Nat), (1502 : Int), (1799 : Int)), ((212 : Nat), (1802 : Int), (2099 : Int)), ((212 : Nat), (2102 : Int), (2399 : Int))], []), [(.inr none, (249 : Nat), ([], [], [((206 : Nat), (4 : Int), (4 : Int), ck_one (-1))]))])
set_option maxRecDepth 100000 in
theorem q_pl_s816_s : ck_Ok qL_O X LX 203 q_pl_s816 := ck_okq (cuts := [((59 : Nat), [some (.inr (.inr (.inl (208 : Nat)))), some (.inl ((0 : Int), (7 : Int), [])), some (.inl ((2 : Int), (299 : Int), [])), some (.inl ((-2147483648 : Int), (2147483647 : Int), [])), some (.inl ((2 : Int), (299 : Int), [])), some (.inr (.inr (.inl (8 : Nat)))), some (.inl ((-1 : Int), (98 : Int), [])), some (.inl ((-2147483648 : Int), (299 : Int), [])), some (.inl ((0 : Int), (8 : Int), [])), none], ([], [((3 : Nat), (8 : Int), (246 : Nat))], [((206 : Nat), (4 : Int), (4 : Int), ck_one (-1))]), (100 : Nat), .inl (8 : Nat), true)]) (f := 214) ⟨qL_nmu, (ck_E1 (ck_S1 qLl_pl_s224 (ck_S1 qLl_pl_s787 ck_S0)) (ck_E1 (ck_S1 Q170 ck_S0) (ck_E1 (ck_S1 Q30_206 (ck_S1 Q30n_206 ck_S0)) (ck_E1 (ck_S1 qLl_pl_s791 (ck_S1 qLl_pl_s792 ck_S0)) (ck_E1 (ck_S1 qLl_pl_s189 ck_S0) ck_E0)))))⟩ (by decide +kernel)
noncomputable def q_pl_s817 : ck_Sum := (((22 : Nat), (0 : Nat), (0 : Nat)), (249 : Nat), [.inr (.inr (.inl (208 : Nat))), .inl ((0 : Int), (7 : Int), []), .inl (ck_one (-1)), .inl ((0 : Int), (299 : Int), [])], ([], [((3 : Nat), (8 : Int), (246 : Nat))], [((3 : Nat), (6 : Int), (6 : Int), ((0 : Int), (299 : Int), [((10 : Nat), (0 : Int))]))]), ([((200 : Nat), (6 : Int), (6 : Int)), ((204 : Nat), (0 : Int), (9 : Int)), ((205 : Nat), (0 : Int), (14849 : Int)), ((206 : Nat), (2 : Int), (8 : Int)), ((209 : Nat), (3 : Int), (3 : Int)), ((210 : Nat), (0 : Int), (2399 : Int)), ((211 : Nat), (3 : Int), (3 : Int)), ((212 : Nat), (0 : Int), (2399 : Int))], []), [(.inr none, (249 : Nat), ([], [], [((206 : Nat), (4 : Int), (4 : Int), ck_one (-1))]))])
set_option maxRecDepth 100000 in
theorem q_pl_s817_s : ck_Ok qL_O X LX 202 q_pl_s817 := ck_okq (cuts := [((59 : Nat), [some (.inr (.inr (.inl (208 : Nat)))), some (.inl ((0 : Int), (7 : Int), [])), some (.inl (ck_one (-1))), some (.inl ((0 : Int), (299 : Int), [])), some (.inl ((1 : Int), (300 : Int), [((1000010 : Nat), (1 : Int))])), none, none], ([], [((3 : Nat), (8 : Int), (246 : Nat))], [((206 : Nat), (4 : Int), (4 : Int), ck_one (-1)), ((3 : Nat), (6 : Int), (6 : Int), ((0 : Int), (299 : Int), [((10 : Nat), (0 : Int))]))]), (100 : Nat), .inl (4 : Nat), true), ((82 : Nat), [some (.inr (.inr (.inl (208 : Nat)))), some (.inl ((0 : Int), (7 : Int), [])), some (.inl (ck_one (-1))), some (.inl ((2 : Int), (299 : Int), [])), some (.inl ((1 : Int), (298 : Int), [((100 : Nat), (0 : Int)), ((1000010 : Nat), (1 : Int))])), some (.inl ((0 : Int), (8 : Int), [])), none], ([], [((3 : Nat), (8 : Int), (246 : Nat))], [((206 : Nat), (4 : Int), (4 : Int), ck_one (-1)), ((3 : Nat), (6 : Int), (6 : Int), ((0 : Int), (299 : Int), [((10 : Nat), (0 : Int))]))]), (300 : Nat), .inl (5 : Nat), true)]) (f := 284) ⟨qL_nmu, (ck_E1 (ck_S1 qLl_pl_s189 ck_S0) (ck_E1 (ck_S1 qLl_pl_s784 (ck_S1 qLl_pl_s786 ck_S0)) (ck_E1 (ck_S1 q_pl_s815_s (ck_S1 q_pl_s816_s ck_S0)) (ck_E1 (ck_S1 qLl_pl_s787 ck_S0) ck_E0))))⟩ (by decide +kernel)
noncomputable def q_pl_s818 : ck_Sum := (((24 : Nat), (1 : Nat), (6 : Nat)), (249 : Nat), [.inr (.inr (.inl (1 : Nat))), .inl ((0 : Int), (7 : Int), []), .inl ((0 : Int), (299 : Int), [])], ([], [((3 : Nat), (8 : Int), (246 : Nat))], [((3 : Nat), (6 : Int), (6 : Int), ((0 : Int), (299 : Int), [((10 : Nat), (0 : Int))]))]), ([((200 : Nat), (6 : Int), (6 : Int)), ((204 : Nat), (0 : Int), (9 : Int)), ((205 : Nat), (0 : Int), (14849 : Int)), ((206 : Nat), (2 : Int), (8 : Int)), ((209 : Nat), (3 : Int), (3 : Int)), ((210 : Nat), (0 : Int), (2399 : Int)), ((211 : Nat), (3 : Int), (3 : Int)), ((212 : Nat), (0 : Int), (2399 : Int))], []), [(.inl (3 : Nat), (249 : Nat), ([], [], [])), (.inr (some (.inl ((-2147483648 : Int), (2147483647 : Int), []))), (249 : Nat), ([], [], [((206 : Nat), (4 : Int), (4 : Int), ck_one (-1))]))])
set_option maxRecDepth 100000 in
theorem q_pl_s818_s : ck_Ok qL_O X LX 211 q_pl_s818 := ck_okq (cuts := [((27 : Nat), [some (.inr (.inr (.inl (1 : Nat)))), some (.inl ((0 : Int), (7 : Int), [])), some (.inl ((0 : Int), (299 : Int), [])), some (.inl ((-2147483648 : Int), (2147483647 : Int), [])), some (.inl ((0 : Int), (8 : Int), []))], ([], [((3 : Nat), (8 : Int), (246 : Nat))], [((206 : Nat), (4 : Int), (4 : Int), ck_one (-1)), ((3 : Nat), (6 : Int), (6 : Int), ((0 : Int), (299 : Int), [((10 : Nat), (0 : Int))]))]), (100 : Nat), .inl (4 : Nat), true)]) (f := 174) ⟨qL_nmu, (ck_E1 (ck_S1 qLl_pl_s197 ck_S0) (ck_E1 (ck_S1 qLl_pl_s149 ck_S0) (ck_E1 (ck_S1 q_pl_s817_s ck_S0) (ck_E1 (ck_S1 qLl_pl_s189 ck_S0) (ck_E1 (ck_S1 qLl_pl_s795 ck_S0) ck_E0)))))⟩ (by decide +kernel)
theorem qLl_pl_s823 : ck_Ok qL_O X LX 214 pl_s823 := qL_l pl_s823_s (by decide +kernel)
theorem qLl_pl_s828 : ck_Ok qL_O X LX 215 pl_s828 := qL_l pl_s828_s (by decide +kernel)
theorem qLl_pl_s830 : ck_Ok qL_O X LX 25 pl_s830 := qL_l pl_s830_s (by decide +kernel)
theorem qLl_pl_s831 : ck_Ok qL_O X LX 10 pl_s831 := qL_l pl_s831_s (by decide +kernel)
theorem qLl_pl_s826 : ck_Ok qL_O X LX 10 pl_s826 := qL_l pl_s826_s (by decide +kernel)
theorem qLl_pl_s832 : ck_Ok qL_O X LX 216 pl_s832 := qL_l pl_s832_s (by decide +kernel)
theorem qLl_pl_s833 : ck_Ok qL_O X LX 45 pl_s833 := qL_l pl_s833_s (by decide +kernel)
noncomputable def q_pl_s834 : ck_Sum := (((23 : Nat), (1 : Nat), (6 : Nat)), (249 : Nat), [.inr (.inr (.inl (1 : Nat))), .inl ((0 : Int), (30 : Int), []), .inl ((0 : Int), (1 : Int), [])], ([], [((3 : Nat), (8 : Int), (246 : Nat))], [((3 : Nat), (6 : Int), (6 : Int), ((0 : Int), (299 : Int), [((10 : Nat), (0 : Int))]))]), ([((1 : Nat), (15 : Int), (15 : Int)), ((200 : Nat), (6 : Int), (6 : Int)), ((204 : Nat), (0 : Int), (9 : Int)), ((205 : Nat), (0 : Int), (14849 : Int)), ((206 : Nat), (2 : Int), (8 : Int)), ((220 : Nat), (3 : Int), (3 : Int)), ((221 : Nat), (0 : Int), (47 : Int)), ((222 : Nat), (3 : Int), (3 : Int)), ((223 : Nat), (0 : Int), (179 : Int)), ((224 : Nat), (3 : Int), (3 : Int)), ((225 : Nat), (0 : Int), (185 : Int))], []), [(.inl (0 : Nat), (249 : Nat), ([], [], [])), (.inr (some (.inl ((-2147483648 : Int), (2147483647 : Int), []))), (249 : Nat), ([], [], [((224 : Nat), (3 : Int), (3 : Int), ((1 : Int), (31 : Int), [])), ((1 : Nat), (15 : Int), (15 : Int), ck_one 1)])), (.inr (some (.inl ((0 : Int), (5 : Int), []))), (249 : Nat), ([], [], [((224 : Nat), (3 : Int), (3 : Int), ((1 : Int), (31 : Int), [])), ((1 : Nat), (15 : Int), (15 : Int), ck_one 1)]))])
set_option maxRecDepth 100000 in
theorem q_pl_s834_s : ck_Ok qL_O X LX 213 q_pl_s834 := ck_okq (cuts := [((28 : Nat), [some (.inr (.inr (.inl (1 : Nat)))), some (.inl ((0 : Int), (30 : Int), [])), some (.inl ((0 : Int), (1 : Int), [])), some (.inl ((-1 : Int), (29 : Int), [])), none], ([], [((3 : Nat), (8 : Int), (246 : Nat))], [((224 : Nat), (3 : Int), (3 : Int), ((1 : Int), (31 : Int), [])), ((1 : Nat), (15 : Int), (15 : Int), ck_one 1), ((3 : Nat), (6 : Int), (6 : Int), ((0 : Int), (299 : Int), [((10 : Nat), (0 : Int))]))]), (100 : Nat), .inl (3 : Nat), false), ((94 : Nat), [some (.inr (.inr (.inl (1 : Nat)))), some (.inl ((0 : Int), (30 : Int), [])), some (.inl ((0 : Int), (1 : Int), [])), some (.inl ((0 : Int), (5 : Int), [])), some (.inl ((1 : Int), (6 : Int), []))], ([], [((3 : Nat), (8 : Int), (246 : Nat))], [((224 : Nat), (3 : Int), (3 : Int), ((1 : Int), (31 : Int), [])), ((1 : Nat), (15 : Int), (15 : Int), ck_one 1), ((3 : Nat), (6 : Int), (6 : Int), ((0 : Int), (299 : Int), [((10 : Nat), (0 : Int))]))]), (300 : Nat), .inl (4 : Nat), true), ((35 : Nat), [some (.inr (.inr (.inl (1 : Nat)))), some (.inl ((0 : Int), (30 : Int), [])), some (.inl ((0 : Int), (1 : Int), [])), some (.inl ((0 : Int), (29 : Int), [((100 : Nat), (0 : Int))])), some (.inl ((0 : Int), (6 : Int), []))], ([], [((3 : Nat), (8 : Int), (246 : Nat))], [((224 : Nat), (3 : Int), (3 : Int), ((1 : Int), (31 : Int), [])), ((1 : Nat), (15 : Int), (15 : Int), ck_one 1), ((3 : Nat), (6 : Int), (6 : Int), ((0 : Int), (299 : Int), [((10 : Nat), (0 : Int))]))]), (500 : Nat), .inl (4 : Nat), true)]) (f := 330) ⟨qL_nmu, (ck_E1 (ck_S1 qLl_pl_s823 ck_S0) (ck_E1 (ck_S1 Q24L ck_S0) (ck_E1 (ck_S1 qLl_pl_s828 ck_S0) (ck_E1 (ck_S1 qLl_pl_s830 ck_S0) (ck_E1 (ck_S1 qLl_pl_s831 (ck_S1 qLl_pl_s826 ck_S0)) (ck_E1 (ck_S1 qLl_pl_s832 ck_S0) (ck_E1 (ck_S1 qLl_pl_s833 ck_S0) ck_E0)))))))⟩ (by decide +kernel)
theorem qLl_pl_s837 : ck_Ok qL_O X LX 219 pl_s837 := qL_l pl_s837_s (by decide +kernel)
theorem qLl_pl_s838 : ck_Ok qL_O X LX 219 pl_s838 := qL_l pl_s838_s (by decide +kernel)
noncomputable def q_pl_s839 : ck_Sum := (((23 : Nat), (1 : Nat), (6 : Nat)), (249 : Nat), [.inr (.inr (.inl (1 : Nat))), .inl ((0 : Int), (30 : Int), []), .inl ((0 : Int), (1 : Int), [])], ([], [((3 : Nat), (8 : Int), (246 : Nat))], [((3 : Nat), (6 : Int), (6 : Int), ((0 : Int), (299 : Int), [((10 : Nat), (0 : Int))]))]), ([((1 : Nat), (15 : Int), (15 : Int)), ((200 : Nat), (6 : Int), (6 : Int)), ((204 : Nat), (0 : Int), (9 : Int)), ((205 : Nat), (0 : Int), (14849 : Int)), ((206 : Nat), (2 : Int), (8 : Int)), ((220 : Nat), (3 : Int), (3 : Int)), ((221 : Nat), (0 : Int), (47 : Int)), ((222 : Nat), (3 : Int), (3 : Int)), ((223 : Nat), (0 : Int), (179 : Int))], []), [(.inl (0 : Nat), (249 : Nat), ([], [], [])), (.inr (some (.inl ((0 : Int), (2147483647 : Int), []))), (249 : Nat), ([], [], [((1 : Nat), (15 : Int), (15 : Int), ck_one 1)]))])
set_option maxRecDepth 100000 in
theorem q_pl_s839_s : ck_Ok qL_O X LX 218 q_pl_s839 := ck_okq (cuts := [((19 : Nat), [some (.inr (.inr (.inl (1 : Nat)))), some (.inl ((0 : Int), (30 : Int), [])), some (.inl ((0 : Int), (1 : Int), [])), some (.inl ((0 : Int), (5 : Int), [])), some (.inl ((1 : Int), (6 : Int), []))], ([], [((3 : Nat), (8 : Int), (246 : Nat))], [((1 : Nat), (15 : Int), (15 : Int), ck_one 1), ((3 : Nat), (6 : Int), (6 : Int), ((0 : Int), (299 : Int), [((10 : Nat), (0 : Int))]))]), (100 : Nat), .inl (4 : Nat), true)]) (f := 166) ⟨qL_nmu, (ck_E1 (ck_S1 qLl_pl_s823 ck_S0) (ck_E1 (ck_S1 Q24L ck_S0) (ck_E1 (ck_S1 qLl_pl_s828 ck_S0) (ck_E1 (ck_S1 qLl_pl_s837 (ck_S1 qLl_pl_s838 ck_S0)) ck_E0))))⟩ (by decide +kernel)
theorem qLl_pl_s849 : ck_Ok qL_O X LX 47 pl_s849 := qL_l pl_s849_s (by decide +kernel)
noncomputable def q_pl_s850 : ck_Sum := (((22 : Nat), (0 : Nat), (0 : Nat)), (249 : Nat), [.inr (.inr (.inl (1 : Nat))), .inl ((0 : Int), (299 : Int), [])], ([], [((3 : Nat), (8 : Int), (246 : Nat))], []), ([((1 : Nat), (15 : Int), (15 : Int)), ((200 : Nat), (6 : Int), (6 : Int)), ((204 : Nat), (0 : Int), (9 : Int)), ((205 : Nat), (0 : Int), (14849 : Int)), ((206 : Nat), (2 : Int), (8 : Int)), ((220 : Nat), (3 : Int), (3 : Int)), ((221 : Nat), (0 : Int), (47 : Int))], []), [(.inr (some (.inl ((-2147483648 : Int), (2147483647 : Int), []))), (249 : Nat), ([], [], [((1 : Nat), (15 : Int), (15 : Int), ck_one 1)]))])
set_option maxRecDepth 100000 in
theorem q_pl_s850_s : ck_Ok qL_O X LX 223 q_pl_s850 := ck_okq (cuts := []) (f := 90) ⟨qL_nmu, (ck_E1 (ck_S1 qLl_pl_s149 ck_S0) (ck_E1 (ck_S1 Q24L ck_S0) (ck_E1 (ck_S1 qLl_pl_s849 ck_S0) ck_E0)))⟩ (by decide +kernel)
theorem qLl_pl_s851 : ck_Ok qL_O X LX 53 pl_s851 := qL_l pl_s851_s (by decide +kernel)
noncomputable def q_pl_s852 : ck_Sum := (((22 : Nat), (0 : Nat), (0 : Nat)), (249 : Nat), [.inr (.inr (.inl (1 : Nat))), .inl ((-2147483648 : Int), (2147483647 : Int), [])], ([], [((3 : Nat), (8 : Int), (246 : Nat))], []), ([((1 : Nat), (15 : Int), (15 : Int)), ((200 : Nat), (6 : Int), (6 : Int)), ((204 : Nat), (0 : Int), (9 : Int)), ((205 : Nat), (0 : Int), (14849 : Int)), ((206 : Nat), (2 : Int), (8 : Int)), ((220 : Nat), (3 : Int), (3 : Int)), ((221 : Nat), (0 : Int), (47 : Int))], []), [(.inr (some (.inl (ck_one (-1)))), (249 : Nat), ([], [], [((1 : Nat), (15 : Int), (15 : Int), ck_one 1)])), (.inr (some (.inl ((0 : Int), (23 : Int), []))), (249 : Nat), ([], [], [((1 : Nat), (15 : Int), (15 : Int), ck_one 1)]))])
set_option maxRecDepth 100000 in
theorem q_pl_s852_s : ck_Ok qL_O X LX 52 q_pl_s852 := ck_okq (cuts := [((6 : Nat), [some (.inr (.inr (.inl (1 : Nat)))), some (.inl ((-2147483648 : Int), (2147483647 : Int), [])), some (.inl ((0 : Int), (24 : Int), []))], ([], [((3 : Nat), (8 : Int), (246 : Nat))], [((1 : Nat), (15 : Int), (15 : Int), ck_one 1)]), (100 : Nat), .inl (2 : Nat), true)]) (f := 170) ⟨qL_nmu, (ck_E1 (ck_S1 Q24L ck_S0) (ck_E1 (ck_S1 qLl_pl_s201 ck_S0) (ck_E1 (ck_S1 qLl_pl_s218 ck_S0) (ck_E1 (ck_S1 qLl_pl_s851 ck_S0) ck_E0))))⟩ (by decide +kernel)
theorem qLl_pl_s219 : ck_Ok qL_O X LX 67 pl_s219 := qL_l pl_s219_s (by decide +kernel)
noncomputable def q_pl_s855 : ck_Sum := (((22 : Nat), (0 : Nat), (0 : Nat)), (249 : Nat), [.inr (.inr (.inl (1 : Nat))), .inl ((0 : Int), (299 : Int), []), .inl ((0 : Int), (1 : Int), [])], ([], [((3 : Nat), (8 : Int), (246 : Nat))], []), ([((1 : Nat), (15 : Int), (15 : Int)), ((200 : Nat), (6 : Int), (6 : Int)), ((204 : Nat), (0 : Int), (9 : Int)), ((205 : Nat), (0 : Int), (14849 : Int)), ((206 : Nat), (2 : Int), (8 : Int)), ((220 : Nat), (3 : Int), (3 : Int)), ((221 : Nat), (0 : Int), (47 : Int))], []), [(.inr (some (.inl ((-2147483648 : Int), (2147483647 : Int), []))), (249 : Nat), ([], [], [((1 : Nat), (15 : Int), (15 : Int), ck_one 1)]))])
set_option maxRecDepth 100000 in
theorem q_pl_s855_s : ck_Ok qL_O X LX 225 q_pl_s855 := ck_okq (cuts := [((14 : Nat), [some (.inr (.inr (.inl (1 : Nat)))), some (.inl ((0 : Int), (299 : Int), [])), some (.inl ((0 : Int), (1 : Int), [])), some (.inl ((-2147483648 : Int), (2147483647 : Int), [])), some (.inl ((0 : Int), (24 : Int), [])), none], ([], [((3 : Nat), (8 : Int), (246 : Nat))], [((1 : Nat), (15 : Int), (15 : Int), ck_one 1)]), (100 : Nat), .inl (4 : Nat), true)]) (f := 226) ⟨qL_nmu, (ck_E1 (ck_S1 qLl_pl_s149 ck_S0) (ck_E1 (ck_S1 Q24L ck_S0) (ck_E1 (ck_S1 qLl_pl_s201 ck_S0) (ck_E1 (ck_S1 qLl_pl_s204 (ck_S1 qLl_pl_s218 ck_S0)) (ck_E1 (ck_S1 qLl_pl_s219 ck_S0) ck_E0)))))⟩ (by decide +kernel)
noncomputable def q_pl_s860 : ck_Sum := (((24 : Nat), (1 : Nat), (6 : Nat)), (249 : Nat), [.inr (.inr (.inl (1 : Nat))), .inl ((0 : Int), (5 : Int), []), .inl ((0 : Int), (299 : Int), [])], ([], [((3 : Nat), (8 : Int), (246 : Nat))], []), ([((200 : Nat), (6 : Int), (6 : Int)), ((204 : Nat), (0 : Int), (9 : Int)), ((205 : Nat), (0 : Int), (14849 : Int)), ((206 : Nat), (2 : Int), (8 : Int))], []), [(.inl (3 : Nat), (249 : Nat), ([], [], [])), (.inr (some (.inl ((-2147483648 : Int), (2147483647 : Int), []))), (249 : Nat), ([], [], [((206 : Nat), (4 : Int), (4 : Int), ck_one (-1))]))])
set_option maxRecDepth 100000 in
theorem q_pl_s860_s : ck_Ok qL_O X LX 227 q_pl_s860 := ck_okq (cuts := []) (f := 120) ⟨qL_nmu, (ck_E1 (ck_S1 qLl_pl_s159 ck_S0) (ck_E1 (ck_S1 qLl_pl_s149 ck_S0) (ck_E1 (ck_S1 Q29 ck_S0) (ck_E1 (ck_S1 Q30_206 (ck_S1 Q30n_206 ck_S0)) ck_E0))))⟩ (by decide +kernel)
noncomputable def q_pl_s865 : ck_Sum := (((24 : Nat), (1 : Nat), (6 : Nat)), (249 : Nat), [.inr (.inr (.inl (1 : Nat))), .inl ((0 : Int), (98 : Int), []), .inl ((0 : Int), (299 : Int), [])], ([], [((3 : Nat), (8 : Int), (246 : Nat))], []), ([((200 : Nat), (6 : Int), (6 : Int)), ((204 : Nat), (0 : Int), (9 : Int)), ((205 : Nat), (0 : Int), (14849 : Int)), ((206 : Nat), (2 : Int), (8 : Int))], []), [(.inl (3 : Nat), (249 : Nat), ([], [], [])), (.inr (some (.inl ((-1 : Int), (5 : Int), []))), (249 : Nat), ([], [], []))])
set_option maxRecDepth 100000 in
theorem q_pl_s865_s : ck_Ok qL_O X LX 229 q_pl_s865 := ck_okq (cuts := [((20 : Nat), [some (.inr (.inr (.inl (1 : Nat)))), some (.inl ((0 : Int), (98 : Int), [])), some (.inl ((0 : Int), (299 : Int), [])), some (.inl ((-1 : Int), (5 : Int), [])), some (.inl ((-2147483648 : Int), (300 : Int), [])), some (.inl ((0 : Int), (6 : Int), [])), none], ([], [((3 : Nat), (8 : Int), (246 : Nat))], []), (100 : Nat), .inl (5 : Nat), true)]) (f := 210) ⟨qL_nmu, (ck_E1 (ck_S1 qLl_pl_s167 ck_S0) (ck_E1 (ck_S1 qLl_pl_s149 ck_S0) (ck_E1 (ck_S1 Q29 ck_S0) (ck_E1 (ck_S1 Q30_206 (ck_S1 Q30n_206 ck_S0)) ck_E0))))⟩ (by decide +kernel)
theorem qLl_pl_s209 : ck_Ok qL_O X LX 31 pl_s209 := qL_l pl_s209_s (by decide +kernel)
noncomputable def q_pl_s868 : ck_Sum := (((21 : Nat), (0 : Nat), (0 : Nat)), (249 : Nat), [.inr (.inr (.inl (1 : Nat))), .inl ((0 : Int), (299 : Int), [])], ([], [((3 : Nat), (8 : Int), (246 : Nat))], []), ([((200 : Nat), (6 : Int), (6 : Int)), ((204 : Nat), (0 : Int), (9 : Int)), ((205 : Nat), (0 : Int), (14849 : Int)), ((206 : Nat), (2 : Int), (8 : Int))], []), [(.inr (some (.inl ((-2147483648 : Int), (2147483647 : Int), []))), (249 : Nat), ([], [], []))])
set_option maxRecDepth 100000 in
theorem q_pl_s868_s : ck_Ok qL_O X LX 231 q_pl_s868 := ck_okq (cuts := [((9 : Nat), [some (.inr (.inr (.inl (1 : Nat)))), some (.inl ((0 : Int), (299 : Int), [])), some (.inl ((-2147483648 : Int), (2147483647 : Int), [])), some (.inl ((0 : Int), (24 : Int), []))], ([], [((3 : Nat), (8 : Int), (246 : Nat))], []), (100 : Nat), .inl (3 : Nat), true)]) (f := 246) ⟨qL_nmu, (ck_E1 (ck_S1 qLl_pl_s149 ck_S0) (ck_E1 (ck_S1 qLl_pl_s200 ck_S0) (ck_E1 (ck_S1 qLl_pl_s204 ck_S0) (ck_E1 (ck_S1 Q27_206 ck_S0) (ck_E1 (ck_S1 Q148_206 (ck_S1 Q148n_206 ck_S0)) (ck_E1 (ck_S1 qLl_pl_s209 ck_S0) ck_E0))))))⟩ (by decide +kernel)
noncomputable def q_pl_s980 : ck_Sum := (((22 : Nat), (0 : Nat), (0 : Nat)), (249 : Nat), [.inr (.inr (.inl (1 : Nat)))], ([], [((3 : Nat), (8 : Int), (246 : Nat))], [((3 : Nat), (6 : Int), (6 : Int), ((0 : Int), (299 : Int), [((10 : Nat), (0 : Int))]))]), ([((1 : Nat), (15 : Int), (15 : Int)), ((200 : Nat), (6 : Int), (6 : Int)), ((204 : Nat), (0 : Int), (9 : Int)), ((205 : Nat), (0 : Int), (14849 : Int)), ((206 : Nat), (2 : Int), (8 : Int)), ((220 : Nat), (3 : Int), (3 : Int)), ((221 : Nat), (0 : Int), (47 : Int))], []), [(.inr (some (.inl ((-2147483648 : Int), (2147483647 : Int), []))), (249 : Nat), ([], [], [((1 : Nat), (15 : Int), (15 : Int), ck_one 1)]))])
set_option maxRecDepth 100000 in
theorem q_pl_s980_s : ck_Ok qL_O X LX 68 q_pl_s980 := ck_okq (cuts := [((8 : Nat), [some (.inr (.inr (.inl (1 : Nat)))), some (.inl ((-2147483648 : Int), (2147483647 : Int), [])), some (.inl ((0 : Int), (24 : Int), []))], ([], [((3 : Nat), (8 : Int), (246 : Nat))], [((1 : Nat), (15 : Int), (15 : Int), ck_one 1), ((3 : Nat), (6 : Int), (6 : Int), ((0 : Int), (299 : Int), [((10 : Nat), (0 : Int))]))]), (100 : Nat), .inl (2 : Nat), true)]) (f := 174) ⟨qL_nmu, (ck_E1 (ck_S1 Q24L ck_S0) (ck_E1 (ck_S1 qLl_pl_s200 ck_S0) (ck_E1 (ck_S1 qLl_pl_s218 ck_S0) (ck_E1 (ck_S1 qLl_pl_s219 ck_S0) ck_E0))))⟩ (by decide +kernel)
noncomputable def q_pl_s981 : ck_Sum := (((22 : Nat), (0 : Nat), (0 : Nat)), (249 : Nat), [.inr (.inr (.inl (1 : Nat))), .inl (ck_one (-1))], ([], [((3 : Nat), (8 : Int), (246 : Nat))], [((3 : Nat), (6 : Int), (6 : Int), ((0 : Int), (299 : Int), [((10 : Nat), (0 : Int))]))]), ([((1 : Nat), (15 : Int), (15 : Int)), ((200 : Nat), (6 : Int), (6 : Int)), ((204 : Nat), (0 : Int), (9 : Int)), ((205 : Nat), (0 : Int), (14849 : Int)), ((206 : Nat), (2 : Int), (8 : Int)), ((220 : Nat), (3 : Int), (3 : Int)), ((221 : Nat), (0 : Int), (47 : Int))], []), [(.inr (some (.inl ((-2147483648 : Int), (2147483647 : Int), []))), (249 : Nat), ([], [], [((1 : Nat), (15 : Int), (15 : Int), ck_one 1)]))])
set_option maxRecDepth 100000 in
theorem q_pl_s981_s : ck_Ok qL_O X LX 65 q_pl_s981 := ck_okq (cuts := [((8 : Nat), [some (.inr (.inr (.inl (1 : Nat)))), some (.inl (ck_one (-1))), some (.inl ((-2147483648 : Int), (2147483647 : Int), [])), some (.inl ((0 : Int), (24 : Int), [])), none], ([], [((3 : Nat), (8 : Int), (246 : Nat))], [((1 : Nat), (15 : Int), (15 : Int), ck_one 1), ((3 : Nat), (6 : Int), (6 : Int), ((0 : Int), (299 : Int), [((10 : Nat), (0 : Int))]))]), (100 : Nat), .inl (3 : Nat), true)]) (f := 178) ⟨qL_nmu, (ck_E1 (ck_S1 Q24L ck_S0) (ck_E1 (ck_S1 qLl_pl_s200 ck_S0) (ck_E1 (ck_S1 qLl_pl_s220 ck_S0) ck_E0)))⟩ (by decide +kernel)
theorem qLl_pl_s979 : ck_Ok qL_O X LX 69 pl_s979 := qL_l pl_s979_s (by decide +kernel)
theorem qLl_pl_s982 : ck_Ok qL_O X LX 9 pl_s982 := qL_l pl_s982_s (by decide +kernel)
noncomputable def q_pl_s983 : ck_Sum := (((23 : Nat), (0 : Nat), (0 : Nat)), (249 : Nat), [.inr (.inr (.inl (1 : Nat))), .inl ((10 : Int), (2147483647 : Int), [])], ([], [((3 : Nat), (8 : Int), (246 : Nat))], [((3 : Nat), (6 : Int), (6 : Int), ((0 : Int), (299 : Int), [((10 : Nat), (0 : Int))]))]), ([((1 : Nat), (15 : Int), (15 : Int)), ((200 : Nat), (6 : Int), (6 : Int)), ((204 : Nat), (0 : Int), (9 : Int)), ((205 : Nat), (0 : Int), (14849 : Int)), ((206 : Nat), (2 : Int), (8 : Int)), ((220 : Nat), (3 : Int), (3 : Int)), ((221 : Nat), (0 : Int), (47 : Int))], []), [(.inr (some (.inl ((-2147483648 : Int), (2147483647 : Int), []))), (249 : Nat), ([], [], [])), (.inr (some (.inl ((0 : Int), (9999 : Int), []))), (249 : Nat), ([], [], []))])
set_option maxRecDepth 100000 in
theorem q_pl_s983_s : ck_Ok qL_O X LX 63 q_pl_s983 := ck_okq (cuts := []) (f := 84) ⟨qL_nmu, (ck_E1 (ck_S1 qLl_pl_s979 ck_S0) (ck_E1 (ck_S1 q_pl_s980_s ck_S0) (ck_E1 (ck_S1 q_pl_s981_s ck_S0) (ck_E1 (ck_S1 qLl_pl_s982 ck_S0) ck_E0))))⟩ (by decide +kernel)
noncomputable def q_pl_h15 : ck_Sum := (((25 : Nat), (2 : Nat), (12 : Nat)), (249 : Nat), [.inr (.inr (.inl (1 : Nat))), .inl ((0 : Int), (5 : Int), []), .inl ((0 : Int), (98 : Int), []), .inl ((0 : Int), (299 : Int), []), .inr (.inr (.inl (245 : Nat)))], ([], [((3 : Nat), (8 : Int), (246 : Nat))], []), ([((200 : Nat), (6 : Int), (6 : Int)), ((204 : Nat), (0 : Int), (9 : Int)), ((205 : Nat), (0 : Int), (14849 : Int)), ((245 : Nat), (0 : Int), (0 : Int))], []), [(.inr (some (.inl (ck_one 1))), (249 : Nat), ([], [], [])), (.inr (some (.inl (ck_one 0))), (249 : Nat), ([], [], [((245 : Nat), (0 : Int), (0 : Int), ((0 : Int), (30 : Int), [])), ((200 : Nat), (6 : Int), (6 : Int), ck_one 0)]))])
set_option maxRecDepth 100000 in
theorem q_pl_h15_s : ck_Ok qL_O X LX 135 q_pl_h15 := ck_okq (cuts := []) (f := 94) ⟨qL_nmu, (ck_E1 (ck_S1 q_pl_s188_s ck_S0) ck_E0)⟩ (by decide +kernel)
noncomputable def q_pl_h20 : ck_Sum := (((25 : Nat), (2 : Nat), (12 : Nat)), (249 : Nat), [.inr (.inr (.inl (1 : Nat))), .inl ((0 : Int), (7 : Int), []), .inl ((0 : Int), (9 : Int), []), .inr (.inr (.inl (245 : Nat)))], ([], [((3 : Nat), (8 : Int), (246 : Nat))], [((3 : Nat), (6 : Int), (6 : Int), ((0 : Int), (299 : Int), [((10 : Nat), (0 : Int))]))]), ([((1 : Nat), (15 : Int), (15 : Int)), ((200 : Nat), (6 : Int), (6 : Int)), ((204 : Nat), (0 : Int), (9 : Int)), ((205 : Nat), (0 : Int), (14849 : Int)), ((206 : Nat), (2 : Int), (8 : Int)), ((220 : Nat), (3 : Int), (3 : Int)), ((221 : Nat), (0 : Int), (47 : Int)), ((245 : Nat), (0 : Int), (0 : Int))], []), [(.inr (some (.inl (ck_one 1))), (249 : Nat), ([], [], [])), (.inr (some (.inl (ck_one 0))), (249 : Nat), ([], [], [])), (.inr (some (.inl (ck_one 2))), (249 : Nat), ([], [], []))])
set_option maxRecDepth 100000 in
theorem q_pl_h20_s : ck_Ok qL_O X LX 137 q_pl_h20 := ck_okq (cuts := []) (f := 92) ⟨qL_nmu, (ck_E1 (ck_S1 q_pl_s225_s ck_S0) ck_E0)⟩ (by decide +kernel)
noncomputable def q_pl_h25 : ck_Sum := (((25 : Nat), (1 : Nat), (6 : Nat)), (249 : Nat), [.inr (.inr (.inl (1 : Nat))), .inl ((0 : Int), (23 : Int), []), .inl ((0 : Int), (9 : Int), []), .inr (.inr (.inl (245 : Nat)))], ([], [((3 : Nat), (8 : Int), (246 : Nat))], []), ([((200 : Nat), (6 : Int), (6 : Int)), ((204 : Nat), (0 : Int), (9 : Int)), ((205 : Nat), (0 : Int), (14849 : Int)), ((206 : Nat), (2 : Int), (8 : Int)), ((245 : Nat), (0 : Int), (0 : Int))], []), [(.inr (some (.inl (ck_one 1))), (249 : Nat), ([], [], [])), (.inr (some (.inl (ck_one 0))), (249 : Nat), ([], [], [((245 : Nat), (0 : Int), (0 : Int), ((-2147483648 : Int), (299 : Int), []))]))])
set_option maxRecDepth 100000 in
theorem q_pl_h25_s : ck_Ok qL_O X LX 141 q_pl_h25 := ck_okq (cuts := []) (f := 92) ⟨qL_nmu, (ck_E1 (ck_S1 q_pl_s238_s ck_S0) ck_E0)⟩ (by decide +kernel)
noncomputable def q_pl_h30 : ck_Sum := (((25 : Nat), (1 : Nat), (6 : Nat)), (249 : Nat), [.inr (.inr (.inl (1 : Nat))), .inl ((0 : Int), (23 : Int), []), .inl ((0 : Int), (299 : Int), []), .inr (.inr (.inl (245 : Nat)))], ([], [((3 : Nat), (8 : Int), (246 : Nat))], []), ([((200 : Nat), (6 : Int), (6 : Int)), ((204 : Nat), (0 : Int), (9 : Int)), ((205 : Nat), (0 : Int), (14849 : Int)), ((206 : Nat), (2 : Int), (8 : Int)), ((245 : Nat), (0 : Int), (0 : Int))], []), [(.inr (some (.inl (ck_one 1))), (249 : Nat), ([], [], [])), (.inr (some (.inl (ck_one 0))), (249 : Nat), ([], [], [((245 : Nat), (0 : Int), (0 : Int), ((-2147483648 : Int), (99 : Int), []))]))])
set_option maxRecDepth 100000 in
theorem q_pl_h30_s : ck_Ok qL_O X LX 146 q_pl_h30 := ck_okq (cuts := []) (f := 92) ⟨qL_nmu, (ck_E1 (ck_S1 q_pl_s244_s ck_S0) ck_E0)⟩ (by decide +kernel)
noncomputable def q_pl_h35 : ck_Sum := (((25 : Nat), (1 : Nat), (6 : Nat)), (249 : Nat), [.inr (.inr (.inl (1 : Nat))), .inl ((0 : Int), (23 : Int), []), .inl ((0 : Int), (299 : Int), []), .inr (.inr (.inl (245 : Nat)))], ([], [((3 : Nat), (8 : Int), (246 : Nat))], []), ([((200 : Nat), (6 : Int), (6 : Int)), ((204 : Nat), (0 : Int), (9 : Int)), ((205 : Nat), (0 : Int), (14849 : Int)), ((206 : Nat), (2 : Int), (8 : Int)), ((245 : Nat), (0 : Int), (0 : Int))], []), [(.inr (some (.inl (ck_one 1))), (249 : Nat), ([], [], [])), (.inr (some (.inl (ck_one 0))), (249 : Nat), ([], [], [((245 : Nat), (0 : Int), (0 : Int), ((-1 : Int), (99 : Int), []))]))])
set_option maxRecDepth 100000 in
theorem q_pl_h35_s : ck_Ok qL_O X LX 149 q_pl_h35 := ck_okq (cuts := []) (f := 92) ⟨qL_nmu, (ck_E1 (ck_S1 q_pl_s249_s ck_S0) ck_E0)⟩ (by decide +kernel)
noncomputable def q_pl_h132 : ck_Sum := (((25 : Nat), (2 : Nat), (12 : Nat)), (249 : Nat), [.inr (.inr (.inl (1 : Nat))), .inl ((0 : Int), (5 : Int), []), .inl ((0 : Int), (299 : Int), []), .inl ((0 : Int), (299 : Int), []), .inl ((0 : Int), (9 : Int), []), .inr (.inr (.inl (245 : Nat)))], ([], [((3 : Nat), (8 : Int), (246 : Nat))], [((3 : Nat), (6 : Int), (6 : Int), ((0 : Int), (299 : Int), [((10 : Nat), (0 : Int))]))]), ([((200 : Nat), (6 : Int), (6 : Int)), ((204 : Nat), (0 : Int), (9 : Int)), ((205 : Nat), (0 : Int), (14849 : Int)), ((206 : Nat), (2 : Int), (8 : Int)), ((245 : Nat), (0 : Int), (0 : Int))], []), [(.inr (some (.inl (ck_one 1))), (249 : Nat), ([], [], [])), (.inr (some (.inl (ck_one 0))), (249 : Nat), ([], [], [])), (.inr (some (.inl (ck_one 2))), (249 : Nat), ([], [], [((3 : Nat), (6 : Int), (6 : Int), ((1 : Int), (299 : Int), [((10 : Nat), (0 : Int))]))])), (.inr (some (.inl (ck_one 3))), (249 : Nat), ([], [], []))])
set_option maxRecDepth 100000 in
theorem q_pl_h132_s : ck_Ok qL_O X LX 166 q_pl_h132 := ck_okq (cuts := []) (f := 96) ⟨qL_nmu, (ck_E1 (ck_S1 q_pl_s692_s ck_S0) ck_E0)⟩ (by decide +kernel)
noncomputable def q_pl_h137 : ck_Sum := (((25 : Nat), (1 : Nat), (6 : Nat)), (249 : Nat), [.inr (.inr (.inl (1 : Nat))), .inl ((0 : Int), (7 : Int), []), .inl ((0 : Int), (299 : Int), []), .inr (.inr (.inl (245 : Nat)))], ([], [((3 : Nat), (8 : Int), (246 : Nat))], [((3 : Nat), (6 : Int), (6 : Int), ((0 : Int), (299 : Int), [((10 : Nat), (0 : Int))]))]), ([((200 : Nat), (6 : Int), (6 : Int)), ((204 : Nat), (0 : Int), (9 : Int)), ((205 : Nat), (0 : Int), (14849 : Int)), ((206 : Nat), (2 : Int), (8 : Int)), ((245 : Nat), (0 : Int), (0 : Int))], []), [(.inr (some (.inl (ck_one 1))), (249 : Nat), ([], [], [])), (.inr (some (.inl (ck_one 0))), (249 : Nat), ([], [], [((245 : Nat), (0 : Int), (0 : Int), ((-1 : Int), (299 : Int), []))]))])
set_option maxRecDepth 100000 in
theorem q_pl_h137_s : ck_Ok qL_O X LX 168 q_pl_h137 := ck_okq (cuts := []) (f := 92) ⟨qL_nmu, (ck_E1 (ck_S1 q_pl_s698_s ck_S0) ck_E0)⟩ (by decide +kernel)
noncomputable def q_pl_h142 : ck_Sum := (((25 : Nat), (2 : Nat), (12 : Nat)), (249 : Nat), [.inr (.inr (.inl (1 : Nat))), .inl ((0 : Int), (5 : Int), []), .inl ((0 : Int), (299 : Int), []), .inr (.inr (.inl (245 : Nat)))], ([], [((3 : Nat), (8 : Int), (246 : Nat))], [((3 : Nat), (6 : Int), (6 : Int), ((0 : Int), (299 : Int), [((10 : Nat), (0 : Int))]))]), ([((200 : Nat), (6 : Int), (6 : Int)), ((204 : Nat), (0 : Int), (9 : Int)), ((205 : Nat), (0 : Int), (14849 : Int)), ((206 : Nat), (2 : Int), (8 : Int)), ((245 : Nat), (0 : Int), (0 : Int))], []), [(.inr (some (.inl (ck_one 1))), (249 : Nat), ([], [], [])), (.inr (some (.inl (ck_one 0))), (249 : Nat), ([], [], [((245 : Nat), (0 : Int), (0 : Int), ((-1 : Int), (98 : Int), []))])), (.inr (some (.inl (ck_one 2))), (249 : Nat), ([], [], []))])
set_option maxRecDepth 100000 in
theorem q_pl_h142_s : ck_Ok qL_O X LX 171 q_pl_h142 := ck_okq (cuts := []) (f := 92) ⟨qL_nmu, (ck_E1 (ck_S1 q_pl_s703_s ck_S0) ck_E0)⟩ (by decide +kernel)
noncomputable def q_pl_h147 : ck_Sum := (((25 : Nat), (2 : Nat), (12 : Nat)), (249 : Nat), [.inr (.inr (.inl (1 : Nat))), .inl ((0 : Int), (23 : Int), []), .inl ((0 : Int), (7 : Int), []), .inr (.inr (.inl (245 : Nat)))], ([], [((3 : Nat), (8 : Int), (246 : Nat))], []), ([((200 : Nat), (6 : Int), (6 : Int)), ((204 : Nat), (0 : Int), (9 : Int)), ((205 : Nat), (0 : Int), (14849 : Int)), ((206 : Nat), (2 : Int), (8 : Int)), ((245 : Nat), (0 : Int), (0 : Int))], []), [(.inr (some (.inl (ck_one 1))), (249 : Nat), ([], [], [])), (.inr (some (.inl (ck_one 0))), (249 : Nat), ([], [], [((245 : Nat), (0 : Int), (0 : Int), ((-2147483648 : Int), (299 : Int), [])), ((206 : Nat), (4 : Int), (4 : Int), ((0 : Int), (7 : Int), [])), ((206 : Nat), (2 : Int), (2 : Int), ((-1 : Int), (299 : Int), []))]))])
set_option maxRecDepth 100000 in
theorem q_pl_h147_s : ck_Ok qL_O X LX 173 q_pl_h147 := ck_okq (cuts := []) (f := 92) ⟨qL_nmu, (ck_E1 (ck_S1 q_pl_s709_s ck_S0) ck_E0)⟩ (by decide +kernel)
noncomputable def q_pl_h150 : ck_Sum := (((25 : Nat), (1 : Nat), (6 : Nat)), (249 : Nat), [.inr (.inr (.inl (1 : Nat))), .inl ((0 : Int), (23 : Int), []), .inr (.inr (.inl (245 : Nat)))], ([], [((3 : Nat), (8 : Int), (246 : Nat))], []), ([((200 : Nat), (6 : Int), (6 : Int)), ((204 : Nat), (0 : Int), (9 : Int)), ((205 : Nat), (0 : Int), (14849 : Int)), ((206 : Nat), (2 : Int), (8 : Int)), ((245 : Nat), (0 : Int), (0 : Int))], []), [(.inr (some (.inl (ck_one 1))), (249 : Nat), ([], [], [])), (.inr (some (.inl (ck_one 0))), (249 : Nat), ([], [], [((206 : Nat), (4 : Int), (4 : Int), ck_one (-1)), ((206 : Nat), (2 : Int), (2 : Int), ((-1 : Int), (299 : Int), []))]))])
set_option maxRecDepth 100000 in
theorem q_pl_h150_s : ck_Ok qL_O X LX 176 q_pl_h150 := ck_okq (cuts := []) (f := 90) ⟨qL_nmu, (ck_E1 (ck_S1 q_pl_s712_s ck_S0) ck_E0)⟩ (by decide +kernel)
noncomputable def q_pl_h153 : ck_Sum := (((25 : Nat), (1 : Nat), (6 : Nat)), (249 : Nat), [.inr (.inr (.inl (1 : Nat))), .inl ((0 : Int), (23 : Int), []), .inr (.inr (.inl (245 : Nat)))], ([], [((3 : Nat), (8 : Int), (246 : Nat))], []), ([((200 : Nat), (6 : Int), (6 : Int)), ((204 : Nat), (0 : Int), (9 : Int)), ((205 : Nat), (0 : Int), (14849 : Int)), ((206 : Nat), (2 : Int), (8 : Int)), ((207 : Nat), (2 : Int), (8 : Int)), ((245 : Nat), (0 : Int), (0 : Int))], []), [(.inr (some (.inl (ck_one 1))), (249 : Nat), ([], [], [])), (.inr (some (.inl (ck_one 0))), (249 : Nat), ([], [], []))])
set_option maxRecDepth 100000 in
theorem q_pl_h153_s : ck_Ok qL_O X LX 178 q_pl_h153 := ck_okq (cuts := []) (f := 90) ⟨qL_nmu, (ck_E1 (ck_S1 q_pl_s731_s ck_S0) ck_E0)⟩ (by decide +kernel)
noncomputable def q_pl_h160 : ck_Sum := (((25 : Nat), (1 : Nat), (6 : Nat)), (249 : Nat), [.inr (.inr (.inl (1 : Nat))), .inl ((0 : Int), (5 : Int), []), .inl ((0 : Int), (299 : Int), []), .inl ((0 : Int), (99 : Int), []), .inr (.inr (.inl (245 : Nat)))], ([], [((3 : Nat), (8 : Int), (246 : Nat))], []), ([((200 : Nat), (6 : Int), (6 : Int)), ((204 : Nat), (0 : Int), (9 : Int)), ((205 : Nat), (0 : Int), (14849 : Int)), ((206 : Nat), (2 : Int), (8 : Int)), ((245 : Nat), (0 : Int), (0 : Int))], []), [(.inr (some (.inl (ck_one 1))), (249 : Nat), ([], [], [])), (.inr (some (.inl (ck_one 0))), (249 : Nat), ([], [], []))])
set_option maxRecDepth 100000 in
theorem q_pl_h160_s : ck_Ok qL_O X LX 185 q_pl_h160 := ck_okq (cuts := []) (f := 94) ⟨qL_nmu, (ck_E1 (ck_S1 q_pl_s744_s ck_S0) ck_E0)⟩ (by decide +kernel)
noncomputable def q_pl_h169 : ck_Sum := (((25 : Nat), (2 : Nat), (12 : Nat)), (249 : Nat), [.inr (.inr (.inl (1 : Nat))), .inl ((0 : Int), (7 : Int), []), .inl ((0 : Int), (5 : Int), []), .inl ((0 : Int), (299 : Int), []), .inl ((0 : Int), (99 : Int), []), .inr (.inr (.inl (245 : Nat)))], ([], [((3 : Nat), (8 : Int), (246 : Nat))], []), ([((200 : Nat), (6 : Int), (6 : Int)), ((204 : Nat), (0 : Int), (9 : Int)), ((205 : Nat), (0 : Int), (14849 : Int)), ((206 : Nat), (2 : Int), (8 : Int)), ((245 : Nat), (0 : Int), (0 : Int))], []), [(.inr (some (.inl (ck_one 1))), (249 : Nat), ([], [], [])), (.inr (some (.inl (ck_one 0))), (249 : Nat), ([], [], [((245 : Nat), (0 : Int), (0 : Int), ((-1 : Int), (298 : Int), []))]))])
set_option maxRecDepth 100000 in
theorem q_pl_h169_s : ck_Ok qL_O X LX 189 q_pl_h169 := ck_okq (cuts := []) (f := 96) ⟨qL_nmu, (ck_E1 (ck_S1 q_pl_s753_s ck_S0) ck_E0)⟩ (by decide +kernel)
noncomputable def q_pl_h185 : ck_Sum := (((25 : Nat), (3 : Nat), (18 : Nat)), (249 : Nat), [.inr (.inr (.inl (1 : Nat))), .inl ((0 : Int), (7 : Int), []), .inl ((0 : Int), (7 : Int), []), .inl ((0 : Int), (1 : Int), []), .inr (.inr (.inl (245 : Nat)))], ([], [((3 : Nat), (8 : Int), (246 : Nat))], [((3 : Nat), (6 : Int), (6 : Int), ((0 : Int), (299 : Int), [((10 : Nat), (0 : Int))]))]), ([((200 : Nat), (6 : Int), (6 : Int)), ((204 : Nat), (0 : Int), (9 : Int)), ((205 : Nat), (0 : Int), (14849 : Int)), ((206 : Nat), (2 : Int), (8 : Int)), ((209 : Nat), (3 : Int), (3 : Int)), ((210 : Nat), (0 : Int), (2399 : Int)), ((211 : Nat), (3 : Int), (3 : Int)), ((212 : Nat), (0 : Int), (2399 : Int)), ((245 : Nat), (0 : Int), (0 : Int))], []), [(.inr (some (.inl (ck_one 1))), (249 : Nat), ([], [], [])), (.inr (some (.inl (ck_one 0))), (249 : Nat), ([], [], [((206 : Nat), (4 : Int), (4 : Int), ck_one (-1))])), (.inr (some (.inl (ck_one 2))), (249 : Nat), ([], [], []))])
set_option maxRecDepth 100000 in
theorem q_pl_h185_s : ck_Ok qL_O X LX 200 q_pl_h185 := ck_okq (cuts := []) (f := 94) ⟨qL_nmu, (ck_E1 (ck_S1 q_pl_s797_s ck_S0) ck_E0)⟩ (by decide +kernel)
noncomputable def q_pl_h190 : ck_Sum := (((25 : Nat), (4 : Nat), (24 : Nat)), (249 : Nat), [.inr (.inr (.inl (1 : Nat))), .inl ((0 : Int), (7 : Int), []), .inl ((0 : Int), (7 : Int), []), .inl ((-2147483648 : Int), (0 : Int), []), .inr (.inr (.inl (245 : Nat)))], ([], [((3 : Nat), (8 : Int), (246 : Nat))], [((3 : Nat), (6 : Int), (6 : Int), ((0 : Int), (299 : Int), [((10 : Nat), (0 : Int))]))]), ([((200 : Nat), (6 : Int), (6 : Int)), ((204 : Nat), (0 : Int), (9 : Int)), ((205 : Nat), (0 : Int), (14849 : Int)), ((206 : Nat), (2 : Int), (8 : Int)), ((209 : Nat), (3 : Int), (3 : Int)), ((210 : Nat), (0 : Int), (2399 : Int)), ((211 : Nat), (3 : Int), (3 : Int)), ((212 : Nat), (0 : Int), (2399 : Int)), ((245 : Nat), (0 : Int), (0 : Int))], []), [(.inr (some (.inl (ck_one 1))), (249 : Nat), ([], [], [])), (.inr (some (.inl (ck_one 0))), (249 : Nat), ([], [], [((245 : Nat), (0 : Int), (0 : Int), ((-1 : Int), (7 : Int), [])), ((206 : Nat), (4 : Int), (4 : Int), ck_one (-1))])), (.inr (some (.inl (ck_one 2))), (249 : Nat), ([], [], []))])
set_option maxRecDepth 100000 in
theorem q_pl_h190_s : ck_Ok qL_O X LX 206 q_pl_h190 := ck_okq (cuts := []) (f := 94) ⟨qL_nmu, (ck_E1 (ck_S1 q_pl_s805_s ck_S0) ck_E0)⟩ (by decide +kernel)
noncomputable def q_pl_h191 : ck_Sum := (((25 : Nat), (3 : Nat), (18 : Nat)), (249 : Nat), [.inr (.inr (.inl (1 : Nat))), .inl ((0 : Int), (7 : Int), []), .inl ((0 : Int), (7 : Int), []), .inl ((51 : Int), (2147483647 : Int), []), .inr (.inr (.inl (245 : Nat)))], ([], [((3 : Nat), (8 : Int), (246 : Nat))], [((3 : Nat), (6 : Int), (6 : Int), ((0 : Int), (299 : Int), [((10 : Nat), (0 : Int))]))]), ([((200 : Nat), (6 : Int), (6 : Int)), ((204 : Nat), (0 : Int), (9 : Int)), ((205 : Nat), (0 : Int), (14849 : Int)), ((206 : Nat), (2 : Int), (8 : Int)), ((209 : Nat), (3 : Int), (3 : Int)), ((210 : Nat), (0 : Int), (2399 : Int)), ((211 : Nat), (3 : Int), (3 : Int)), ((212 : Nat), (0 : Int), (2399 : Int)), ((245 : Nat), (0 : Int), (0 : Int))], []), [(.inr (some (.inl (ck_one 1))), (249 : Nat), ([], [], [])), (.inr (some (.inl (ck_one 0))), (249 : Nat), ([], [], [((245 : Nat), (0 : Int), (0 : Int), ((-1 : Int), (2398 : Int), [])), ((206 : Nat), (4 : Int), (4 : Int), ck_one (-1))])), (.inr (some (.inl (ck_one 2))), (249 : Nat), ([], [], []))])
set_option maxRecDepth 100000 in
theorem q_pl_h191_s : ck_Ok qL_O X LX 206 q_pl_h191 := ck_okq (cuts := []) (f := 94) ⟨qL_nmu, (ck_E1 (ck_S1 q_pl_s808_s ck_S0) ck_E0)⟩ (by decide +kernel)
noncomputable def q_pl_h192 : ck_Sum := (((25 : Nat), (3 : Nat), (18 : Nat)), (249 : Nat), [.inr (.inr (.inl (1 : Nat))), .inl ((0 : Int), (7 : Int), []), .inl ((0 : Int), (7 : Int), []), .inl ((1 : Int), (50 : Int), []), .inr (.inr (.inl (245 : Nat)))], ([], [((3 : Nat), (8 : Int), (246 : Nat))], [((3 : Nat), (6 : Int), (6 : Int), ((0 : Int), (299 : Int), [((10 : Nat), (0 : Int))]))]), ([((200 : Nat), (6 : Int), (6 : Int)), ((204 : Nat), (0 : Int), (9 : Int)), ((205 : Nat), (0 : Int), (14849 : Int)), ((206 : Nat), (2 : Int), (8 : Int)), ((209 : Nat), (3 : Int), (3 : Int)), ((210 : Nat), (0 : Int), (2399 : Int)), ((211 : Nat), (3 : Int), (3 : Int)), ((212 : Nat), (0 : Int), (2399 : Int)), ((245 : Nat), (0 : Int), (0 : Int))], []), [(.inr (some (.inl (ck_one 1))), (249 : Nat), ([], [], [])), (.inr (some (.inl (ck_one 0))), (249 : Nat), ([], [], [((245 : Nat), (0 : Int), (0 : Int), ((-1 : Int), (2398 : Int), [])), ((206 : Nat), (4 : Int), (4 : Int), ck_one (-1))])), (.inr (some (.inl (ck_one 2))), (249 : Nat), ([], [], []))])
set_option maxRecDepth 100000 in
theorem q_pl_h192_s : ck_Ok qL_O X LX 206 q_pl_h192 := ck_okq (cuts := []) (f := 94) ⟨qL_nmu, (ck_E1 (ck_S1 q_pl_s810_s ck_S0) ck_E0)⟩ (by decide +kernel)
noncomputable def q_pl_h197 : ck_Sum := (((25 : Nat), (1 : Nat), (6 : Nat)), (249 : Nat), [.inr (.inr (.inl (1 : Nat))), .inl ((0 : Int), (7 : Int), []), .inl ((0 : Int), (299 : Int), []), .inr (.inr (.inl (245 : Nat)))], ([], [((3 : Nat), (8 : Int), (246 : Nat))], [((3 : Nat), (6 : Int), (6 : Int), ((0 : Int), (299 : Int), [((10 : Nat), (0 : Int))]))]), ([((200 : Nat), (6 : Int), (6 : Int)), ((204 : Nat), (0 : Int), (9 : Int)), ((205 : Nat), (0 : Int), (14849 : Int)), ((206 : Nat), (2 : Int), (8 : Int)), ((209 : Nat), (3 : Int), (3 : Int)), ((210 : Nat), (0 : Int), (2399 : Int)), ((211 : Nat), (3 : Int), (3 : Int)), ((212 : Nat), (0 : Int), (2399 : Int)), ((245 : Nat), (0 : Int), (0 : Int))], []), [(.inr (some (.inl (ck_one 1))), (249 : Nat), ([], [], [])), (.inr (some (.inl (ck_one 0))), (249 : Nat), ([], [], [((206 : Nat), (4 : Int), (4 : Int), ck_one (-1))]))])
set_option maxRecDepth 100000 in
theorem q_pl_h197_s : ck_Ok qL_O X LX 210 q_pl_h197 := ck_okq (cuts := []) (f := 92) ⟨qL_nmu, (ck_E1 (ck_S1 q_pl_s818_s ck_S0) ck_E0)⟩ (by decide +kernel)
noncomputable def q_pl_h200 : ck_Sum := (((24 : Nat), (1 : Nat), (6 : Nat)), (249 : Nat), [.inr (.inr (.inl (1 : Nat))), .inl ((0 : Int), (30 : Int), []), .inl ((0 : Int), (1 : Int), []), .inr (.inr (.inl (245 : Nat)))], ([], [((3 : Nat), (8 : Int), (246 : Nat))], [((3 : Nat), (6 : Int), (6 : Int), ((0 : Int), (299 : Int), [((10 : Nat), (0 : Int))]))]), ([((1 : Nat), (15 : Int), (15 : Int)), ((200 : Nat), (6 : Int), (6 : Int)), ((204 : Nat), (0 : Int), (9 : Int)), ((205 : Nat), (0 : Int), (14849 : Int)), ((206 : Nat), (2 : Int), (8 : Int)), ((220 : Nat), (3 : Int), (3 : Int)), ((221 : Nat), (0 : Int), (47 : Int)), ((222 : Nat), (3 : Int), (3 : Int)), ((223 : Nat), (0 : Int), (179 : Int)), ((224 : Nat), (3 : Int), (3 : Int)), ((225 : Nat), (0 : Int), (185 : Int)), ((245 : Nat), (0 : Int), (0 : Int))], []), [(.inr (some (.inl (ck_one 1))), (249 : Nat), ([], [], [])), (.inr (some (.inl (ck_one 0))), (249 : Nat), ([], [], [((224 : Nat), (3 : Int), (3 : Int), ((1 : Int), (31 : Int), [])), ((1 : Nat), (15 : Int), (15 : Int), ck_one 1)]))])
set_option maxRecDepth 100000 in
theorem q_pl_h200_s : ck_Ok qL_O X LX 212 q_pl_h200 := ck_okq (cuts := []) (f := 92) ⟨qL_nmu, (ck_E1 (ck_S1 q_pl_s834_s ck_S0) ck_E0)⟩ (by decide +kernel)
noncomputable def q_pl_h203 : ck_Sum := (((24 : Nat), (1 : Nat), (6 : Nat)), (249 : Nat), [.inr (.inr (.inl (1 : Nat))), .inl ((0 : Int), (30 : Int), []), .inl ((0 : Int), (1 : Int), []), .inr (.inr (.inl (245 : Nat)))], ([], [((3 : Nat), (8 : Int), (246 : Nat))], [((3 : Nat), (6 : Int), (6 : Int), ((0 : Int), (299 : Int), [((10 : Nat), (0 : Int))]))]), ([((1 : Nat), (15 : Int), (15 : Int)), ((200 : Nat), (6 : Int), (6 : Int)), ((204 : Nat), (0 : Int), (9 : Int)), ((205 : Nat), (0 : Int), (14849 : Int)), ((206 : Nat), (2 : Int), (8 : Int)), ((220 : Nat), (3 : Int), (3 : Int)), ((221 : Nat), (0 : Int), (47 : Int)), ((222 : Nat), (3 : Int), (3 : Int)), ((223 : Nat), (0 : Int), (179 : Int)), ((245 : Nat), (0 : Int), (0 : Int))], []), [(.inr (some (.inl (ck_one 1))), (249 : Nat), ([], [], [])), (.inr (some (.inl (ck_one 0))), (249 : Nat), ([], [], [((245 : Nat), (0 : Int), (0 : Int), ((0 : Int), (2147483647 : Int), [])), ((1 : Nat), (15 : Int), (15 : Int), ck_one 1)]))])
set_option maxRecDepth 100000 in
theorem q_pl_h203_s : ck_Ok qL_O X LX 217 q_pl_h203 := ck_okq (cuts := []) (f := 92) ⟨qL_nmu, (ck_E1 (ck_S1 q_pl_s839_s ck_S0) ck_E0)⟩ (by decide +kernel)
noncomputable def q_pl_h208 : ck_Sum := (((25 : Nat), (3 : Nat), (18 : Nat)), (249 : Nat), [.inr (.inr (.inl (1 : Nat))), .inl ((0 : Int), (23 : Int), []), .inl ((0 : Int), (23 : Int), []), .inr (.inr (.inl (245 : Nat)))], ([], [((3 : Nat), (8 : Int), (246 : Nat))], [((3 : Nat), (6 : Int), (6 : Int), ((0 : Int), (299 : Int), [((10 : Nat), (0 : Int))]))]), ([((200 : Nat), (6 : Int), (6 : Int)), ((204 : Nat), (0 : Int), (9 : Int)), ((205 : Nat), (0 : Int), (14849 : Int)), ((206 : Nat), (2 : Int), (8 : Int)), ((207 : Nat), (2 : Int), (8 : Int)), ((245 : Nat), (0 : Int), (0 : Int))], []), [(.inr (some (.inl (ck_one 1))), (249 : Nat), ([], [], [])), (.inr (some (.inl (ck_one 0))), (249 : Nat), ([], [], [((245 : Nat), (0 : Int), (0 : Int), ((-1 : Int), (299 : Int), []))])), (.inr (some (.inl (ck_one 2))), (249 : Nat), ([], [], []))])
set_option maxRecDepth 100000 in
theorem q_pl_h208_s : ck_Ok qL_O X LX 220 q_pl_h208 := ck_okq (cuts := []) (f := 92) ⟨qL_nmu, (ck_E1 (ck_S1 Q221 ck_S0) ck_E0)⟩ (by decide +kernel)
noncomputable def q_pl_h211 : ck_Sum := (((23 : Nat), (0 : Nat), (0 : Nat)), (249 : Nat), [.inr (.inr (.inl (1 : Nat))), .inl ((0 : Int), (299 : Int), []), .inr (.inr (.inl (245 : Nat)))], ([], [((3 : Nat), (8 : Int), (246 : Nat))], []), ([((1 : Nat), (15 : Int), (15 : Int)), ((200 : Nat), (6 : Int), (6 : Int)), ((204 : Nat), (0 : Int), (9 : Int)), ((205 : Nat), (0 : Int), (14849 : Int)), ((206 : Nat), (2 : Int), (8 : Int)), ((220 : Nat), (3 : Int), (3 : Int)), ((221 : Nat), (0 : Int), (47 : Int)), ((245 : Nat), (0 : Int), (0 : Int))], []), [(.inr (some (.inl (ck_one 0))), (249 : Nat), ([], [], [((1 : Nat), (15 : Int), (15 : Int), ck_one 1)]))])
set_option maxRecDepth 100000 in
theorem q_pl_h211_s : ck_Ok qL_O X LX 222 q_pl_h211 := ck_okq (cuts := []) (f := 90) ⟨qL_nmu, (ck_E1 (ck_S1 q_pl_s850_s ck_S0) ck_E0)⟩ (by decide +kernel)
noncomputable def q_pl_h214 : ck_Sum := (((23 : Nat), (0 : Nat), (0 : Nat)), (249 : Nat), [.inr (.inr (.inl (1 : Nat))), .inl ((0 : Int), (299 : Int), []), .inl ((0 : Int), (1 : Int), []), .inr (.inr (.inl (245 : Nat)))], ([], [((3 : Nat), (8 : Int), (246 : Nat))], []), ([((1 : Nat), (15 : Int), (15 : Int)), ((200 : Nat), (6 : Int), (6 : Int)), ((204 : Nat), (0 : Int), (9 : Int)), ((205 : Nat), (0 : Int), (14849 : Int)), ((206 : Nat), (2 : Int), (8 : Int)), ((220 : Nat), (3 : Int), (3 : Int)), ((221 : Nat), (0 : Int), (47 : Int)), ((245 : Nat), (0 : Int), (0 : Int))], []), [(.inr (some (.inl (ck_one 0))), (249 : Nat), ([], [], [((1 : Nat), (15 : Int), (15 : Int), ck_one 1)]))])
set_option maxRecDepth 100000 in
theorem q_pl_h214_s : ck_Ok qL_O X LX 224 q_pl_h214 := ck_okq (cuts := []) (f := 92) ⟨qL_nmu, (ck_E1 (ck_S1 q_pl_s855_s ck_S0) ck_E0)⟩ (by decide +kernel)
noncomputable def q_pl_h219 : ck_Sum := (((25 : Nat), (1 : Nat), (6 : Nat)), (249 : Nat), [.inr (.inr (.inl (1 : Nat))), .inl ((0 : Int), (5 : Int), []), .inl ((0 : Int), (299 : Int), []), .inr (.inr (.inl (245 : Nat)))], ([], [((3 : Nat), (8 : Int), (246 : Nat))], []), ([((200 : Nat), (6 : Int), (6 : Int)), ((204 : Nat), (0 : Int), (9 : Int)), ((205 : Nat), (0 : Int), (14849 : Int)), ((206 : Nat), (2 : Int), (8 : Int)), ((245 : Nat), (0 : Int), (0 : Int))], []), [(.inr (some (.inl (ck_one 1))), (249 : Nat), ([], [], [])), (.inr (some (.inl (ck_one 0))), (249 : Nat), ([], [], [((206 : Nat), (4 : Int), (4 : Int), ck_one (-1))]))])
set_option maxRecDepth 100000 in
theorem q_pl_h219_s : ck_Ok qL_O X LX 226 q_pl_h219 := ck_okq (cuts := []) (f := 92) ⟨qL_nmu, (ck_E1 (ck_S1 q_pl_s860_s ck_S0) ck_E0)⟩ (by decide +kernel)
noncomputable def q_pl_h224 : ck_Sum := (((25 : Nat), (1 : Nat), (6 : Nat)), (249 : Nat), [.inr (.inr (.inl (1 : Nat))), .inl ((0 : Int), (98 : Int), []), .inl ((0 : Int), (299 : Int), []), .inr (.inr (.inl (245 : Nat)))], ([], [((3 : Nat), (8 : Int), (246 : Nat))], []), ([((200 : Nat), (6 : Int), (6 : Int)), ((204 : Nat), (0 : Int), (9 : Int)), ((205 : Nat), (0 : Int), (14849 : Int)), ((206 : Nat), (2 : Int), (8 : Int)), ((245 : Nat), (0 : Int), (0 : Int))], []), [(.inr (some (.inl (ck_one 1))), (249 : Nat), ([], [], [])), (.inr (some (.inl (ck_one 0))), (249 : Nat), ([], [], [((245 : Nat), (0 : Int), (0 : Int), ((-1 : Int), (5 : Int), []))]))])
set_option maxRecDepth 100000 in
theorem q_pl_h224_s : ck_Ok qL_O X LX 228 q_pl_h224 := ck_okq (cuts := []) (f := 92) ⟨qL_nmu, (ck_E1 (ck_S1 q_pl_s865_s ck_S0) ck_E0)⟩ (by decide +kernel)
noncomputable def q_pl_h227 : ck_Sum := (((22 : Nat), (0 : Nat), (0 : Nat)), (249 : Nat), [.inr (.inr (.inl (1 : Nat))), .inl ((0 : Int), (299 : Int), []), .inr (.inr (.inl (245 : Nat)))], ([], [((3 : Nat), (8 : Int), (246 : Nat))], []), ([((200 : Nat), (6 : Int), (6 : Int)), ((204 : Nat), (0 : Int), (9 : Int)), ((205 : Nat), (0 : Int), (14849 : Int)), ((206 : Nat), (2 : Int), (8 : Int)), ((245 : Nat), (0 : Int), (0 : Int))], []), [(.inr (some (.inl (ck_one 0))), (249 : Nat), ([], [], []))])
set_option maxRecDepth 100000 in
theorem q_pl_h227_s : ck_Ok qL_O X LX 230 q_pl_h227 := ck_okq (cuts := []) (f := 90) ⟨qL_nmu, (ck_E1 (ck_S1 q_pl_s868_s ck_S0) ck_E0)⟩ (by decide +kernel)
end GHL
end
/-! 7c37.g0 -/
section
/-! ROWS THAT KEEP SOMETHING, again under q0_O (laid by wip/rel/gh2.py). -/
section GH0
variable {X : Int → Int} {LX : Nat}
theorem Q240 : ck_Ok q0_O X LX 24 (q24 0 q24_W0) := q24_0 p2_s349_s
theorem q0l_p2_s331 : ck_Ok q0_O X LX 9 p2_s331 := q0_l p2_s331_s (by decide +kernel)
theorem q0l_p2_s335 : ck_Ok q0_O X LX 10 p2_s335 := q0_l p2_s335_s (by decide +kernel)
theorem q0l_p2_s352 : ck_Ok q0_O X LX 66 p2_s352 := q0_l p2_s352_s (by decide +kernel)
noncomputable def q_p2_s353 : ck_Sum := (((21 : Nat), (0 : Nat), (0 : Nat)), (245 : Nat), [.inr (.inr (.inl (1 : Nat))), .inl ((0 : Int), (7 : Int), [])], ([], [((3 : Nat), (8 : Int), (0 : Nat))], [((3 : Nat), (6 : Int), (6 : Int), ((0 : Int), (299 : Int), [((10 : Nat), (0 : Int))]))]), ([((1 : Nat), (15 : Int), (15 : Int)), ((206 : Nat), (2 : Int), (8 : Int)), ((220 : Nat), (3 : Int), (3 : Int)), ((221 : Nat), (0 : Int), (47 : Int))], []), [(.inr (some (.inl ((-2147483648 : Int), (2147483647 : Int), []))), (245 : Nat), ([], [], [((1 : Nat), (15 : Int), (15 : Int), ck_one 1)]))])
set_option maxRecDepth 100000 in
theorem q_p2_s353_s : ck_Ok q0_O X LX 65 q_p2_s353 := ck_okq (cuts := [((8 : Nat), [some (.inr (.inr (.inl (1 : Nat)))), some (.inl ((0 : Int), (7 : Int), [])), some (.inl ((-2147483648 : Int), (2147483647 : Int), [])), some (.inl ((0 : Int), (24 : Int), [])), none], ([], [((3 : Nat), (8 : Int), (0 : Nat))], [((1 : Nat), (15 : Int), (15 : Int), ck_one 1), ((3 : Nat), (6 : Int), (6 : Int), ((0 : Int), (299 : Int), [((10 : Nat), (0 : Int))]))]), (100 : Nat), .inl (3 : Nat), true)]) (f := 210) ⟨q0_nmu, (ck_E1 (ck_S1 Q240 ck_S0) (ck_E1 (ck_S1 q0l_p2_s331 ck_S0) (ck_E1 (ck_S1 q0l_p2_s335 ck_S0) (ck_E1 (ck_S1 q0l_p2_s352 ck_S0) ck_E0))))⟩ (by decide +kernel)
theorem q0l_p2_s328 : ck_Ok q0_O X LX 139 p2_s328 := q0_l p2_s328_s (by decide +kernel)
theorem q0l_p2_s354 : ck_Ok q0_O X LX 140 p2_s354 := q0_l p2_s354_s (by decide +kernel)
theorem q0l_p2_s355 : ck_Ok q0_O X LX 140 p2_s355 := q0_l p2_s355_s (by decide +kernel)
theorem q0l_p2_s356 : ck_Ok q0_O X LX 10 p2_s356 := q0_l p2_s356_s (by decide +kernel)
noncomputable def q_p2_s357 : ck_Sum := (((24 : Nat), (2 : Nat), (12 : Nat)), (245 : Nat), [.inr (.inr (.inl (1 : Nat))), .inl ((0 : Int), (7 : Int), []), .inl ((0 : Int), (9 : Int), [])], ([], [((3 : Nat), (8 : Int), (0 : Nat))], [((3 : Nat), (6 : Int), (6 : Int), ((0 : Int), (299 : Int), [((10 : Nat), (0 : Int))]))]), ([((1 : Nat), (15 : Int), (15 : Int)), ((206 : Nat), (2 : Int), (8 : Int)), ((220 : Nat), (3 : Int), (3 : Int)), ((221 : Nat), (0 : Int), (47 : Int))], []), [(.inl (3 : Nat), (245 : Nat), ([], [], [])), (.inl (4 : Nat), (245 : Nat), ([], [], [])), (.inr (some (.inl ((-2147483648 : Int), (2147483647 : Int), []))), (245 : Nat), ([], [], []))])
set_option maxRecDepth 100000 in
theorem q_p2_s357_s : ck_Ok q0_O X LX 138 q_p2_s357 := ck_okq (cuts := []) (f := 94) ⟨q0_nmu, (ck_E1 (ck_S1 q0l_p2_s328 ck_S0) (ck_E1 (ck_S1 q_p2_s353_s ck_S0) (ck_E1 (ck_S1 q0l_p2_s354 (ck_S1 q0l_p2_s355 ck_S0)) (ck_E1 (ck_S1 q0l_p2_s356 ck_S0) ck_E0))))⟩ (by decide +kernel)
theorem q0l_p2_s332 : ck_Ok q0_O X LX 9 p2_s332 := q0_l p2_s332_s (by decide +kernel)
theorem q0l_p2_s350 : ck_Ok q0_O X LX 10 p2_s350 := q0_l p2_s350_s (by decide +kernel)
noncomputable def q_p2_s1369 : ck_Sum := (((21 : Nat), (0 : Nat), (0 : Nat)), (245 : Nat), [.inr (.inr (.inl (1 : Nat)))], ([], [((3 : Nat), (8 : Int), (0 : Nat))], []), ([((1 : Nat), (15 : Int), (15 : Int)), ((206 : Nat), (2 : Int), (8 : Int)), ((220 : Nat), (3 : Int), (3 : Int)), ((221 : Nat), (0 : Int), (47 : Int))], []), [(.inr (some (.inl ((-2147483648 : Int), (2147483647 : Int), []))), (245 : Nat), ([], [], [((1 : Nat), (15 : Int), (15 : Int), ck_one 1)]))])
set_option maxRecDepth 100000 in
theorem q_p2_s1369_s : ck_Ok q0_O X LX 23 q_p2_s1369 := ck_okq (cuts := [((8 : Nat), [some (.inr (.inr (.inl (1 : Nat)))), some (.inl ((-2147483648 : Int), (2147483647 : Int), [])), some (.inl ((0 : Int), (24 : Int), []))], ([], [((3 : Nat), (8 : Int), (0 : Nat))], [((1 : Nat), (15 : Int), (15 : Int), ck_one 1)]), (100 : Nat), .inl (2 : Nat), true)]) (f := 174) ⟨q0_nmu, (ck_E1 (ck_S1 Q240 ck_S0) (ck_E1 (ck_S1 q0l_p2_s332 ck_S0) (ck_E1 (ck_S1 q0l_p2_s350 ck_S0) ck_E0)))⟩ (by decide +kernel)
theorem q0l_p2_s1371 : ck_Ok q0_O X LX 47 p2_s1371 := q0_l p2_s1371_s (by decide +kernel)
noncomputable def q_p2_s1372 : ck_Sum := (((21 : Nat), (0 : Nat), (0 : Nat)), (245 : Nat), [.inr (.inr (.inl (1 : Nat))), .inl ((0 : Int), (1 : Int), [])], ([], [((3 : Nat), (8 : Int), (0 : Nat))], []), ([((1 : Nat), (15 : Int), (15 : Int)), ((206 : Nat), (2 : Int), (8 : Int)), ((220 : Nat), (3 : Int), (3 : Int)), ((221 : Nat), (0 : Int), (47 : Int))], []), [(.inr (some (.inl ((-2147483648 : Int), (299 : Int), []))), (245 : Nat), ([], [], [((1 : Nat), (15 : Int), (15 : Int), ck_one 1)])), (.inr (some (.inl ((0 : Int), (2147483647 : Int), []))), (245 : Nat), ([], [], [((1 : Nat), (15 : Int), (15 : Int), ck_one 1)]))])
set_option maxRecDepth 100000 in
theorem q_p2_s1372_s : ck_Ok q0_O X LX 46 q_p2_s1372 := ck_okq (cuts := [((11 : Nat), [some (.inr (.inr (.inl (1 : Nat)))), some (.inl ((0 : Int), (1 : Int), [])), some (.inl ((-2147483648 : Int), (299 : Int), [])), some (.inl ((0 : Int), (2147483647 : Int), [])), some (.inl ((0 : Int), (24 : Int), [])), none, none], ([], [((3 : Nat), (8 : Int), (0 : Nat))], [((1 : Nat), (15 : Int), (15 : Int), ck_one 1)]), (100 : Nat), .inl (4 : Nat), true)]) (f := 230) ⟨q0_nmu, (ck_E1 (ck_S1 Q240 ck_S0) (ck_E1 (ck_S1 q0l_p2_s332 ck_S0) (ck_E1 (ck_S1 q0l_p2_s350 ck_S0) (ck_E1 (ck_S1 q0l_p2_s1371 ck_S0) ck_E0))))⟩ (by decide +kernel)
theorem q0l_p2_s1558 : ck_Ok q0_O X LX 214 p2_s1558 := q0_l p2_s1558_s (by decide +kernel)
theorem q0l_p2_s1563 : ck_Ok q0_O X LX 215 p2_s1563 := q0_l p2_s1563_s (by decide +kernel)
theorem q0l_p2_s1565 : ck_Ok q0_O X LX 25 p2_s1565 := q0_l p2_s1565_s (by decide +kernel)
theorem q0l_p2_s1566 : ck_Ok q0_O X LX 10 p2_s1566 := q0_l p2_s1566_s (by decide +kernel)
theorem q0l_p2_s1561 : ck_Ok q0_O X LX 10 p2_s1561 := q0_l p2_s1561_s (by decide +kernel)
theorem q0l_p2_s1567 : ck_Ok q0_O X LX 216 p2_s1567 := q0_l p2_s1567_s (by decide +kernel)
theorem q0l_p2_s1568 : ck_Ok q0_O X LX 45 p2_s1568 := q0_l p2_s1568_s (by decide +kernel)
noncomputable def q_p2_s1569 : ck_Sum := (((23 : Nat), (1 : Nat), (6 : Nat)), (245 : Nat), [.inr (.inr (.inl (1 : Nat))), .inl ((0 : Int), (30 : Int), []), .inl ((0 : Int), (1 : Int), [])], ([], [((3 : Nat), (8 : Int), (0 : Nat))], [((3 : Nat), (6 : Int), (6 : Int), ((0 : Int), (299 : Int), [((10 : Nat), (0 : Int))]))]), ([((1 : Nat), (15 : Int), (15 : Int)), ((206 : Nat), (2 : Int), (8 : Int)), ((220 : Nat), (3 : Int), (3 : Int)), ((221 : Nat), (0 : Int), (47 : Int)), ((222 : Nat), (3 : Int), (3 : Int)), ((223 : Nat), (0 : Int), (179 : Int)), ((224 : Nat), (3 : Int), (3 : Int)), ((225 : Nat), (0 : Int), (185 : Int))], []), [(.inl (0 : Nat), (245 : Nat), ([], [], [])), (.inr (some (.inl ((-2147483648 : Int), (2147483647 : Int), []))), (245 : Nat), ([], [], [((224 : Nat), (3 : Int), (3 : Int), ((1 : Int), (31 : Int), [])), ((1 : Nat), (15 : Int), (15 : Int), ck_one 1)])), (.inr (some (.inl ((0 : Int), (5 : Int), []))), (245 : Nat), ([], [], [((224 : Nat), (3 : Int), (3 : Int), ((1 : Int), (31 : Int), [])), ((1 : Nat), (15 : Int), (15 : Int), ck_one 1)]))])
set_option maxRecDepth 100000 in
theorem q_p2_s1569_s : ck_Ok q0_O X LX 213 q_p2_s1569 := ck_okq (cuts := [((28 : Nat), [some (.inr (.inr (.inl (1 : Nat)))), some (.inl ((0 : Int), (30 : Int), [])), some (.inl ((0 : Int), (1 : Int), [])), some (.inl ((-1 : Int), (29 : Int), [])), none], ([], [((3 : Nat), (8 : Int), (0 : Nat))], [((224 : Nat), (3 : Int), (3 : Int), ((1 : Int), (31 : Int), [])), ((1 : Nat), (15 : Int), (15 : Int), ck_one 1), ((3 : Nat), (6 : Int), (6 : Int), ((0 : Int), (299 : Int), [((10 : Nat), (0 : Int))]))]), (100 : Nat), .inl (3 : Nat), false), ((94 : Nat), [some (.inr (.inr (.inl (1 : Nat)))), some (.inl ((0 : Int), (30 : Int), [])), some (.inl ((0 : Int), (1 : Int), [])), some (.inl ((0 : Int), (5 : Int), [])), some (.inl ((1 : Int), (6 : Int), []))], ([], [((3 : Nat), (8 : Int), (0 : Nat))], [((224 : Nat), (3 : Int), (3 : Int), ((1 : Int), (31 : Int), [])), ((1 : Nat), (15 : Int), (15 : Int), ck_one 1), ((3 : Nat), (6 : Int), (6 : Int), ((0 : Int), (299 : Int), [((10 : Nat), (0 : Int))]))]), (300 : Nat), .inl (4 : Nat), true), ((35 : Nat), [some (.inr (.inr (.inl (1 : Nat)))), some (.inl ((0 : Int), (30 : Int), [])), some (.inl ((0 : Int), (1 : Int), [])), some (.inl ((0 : Int), (29 : Int), [((100 : Nat), (0 : Int))])), some (.inl ((0 : Int), (6 : Int), []))], ([], [((3 : Nat), (8 : Int), (0 : Nat))], [((224 : Nat), (3 : Int), (3 : Int), ((1 : Int), (31 : Int), [])), ((1 : Nat), (15 : Int), (15 : Int), ck_one 1), ((3 : Nat), (6 : Int), (6 : Int), ((0 : Int), (299 : Int), [((10 : Nat), (0 : Int))]))]), (500 : Nat), .inl (4 : Nat), true)]) (f := 330) ⟨q0_nmu, (ck_E1 (ck_S1 q0l_p2_s1558 ck_S0) (ck_E1 (ck_S1 Q240 ck_S0) (ck_E1 (ck_S1 q0l_p2_s1563 ck_S0) (ck_E1 (ck_S1 q0l_p2_s1565 ck_S0) (ck_E1 (ck_S1 q0l_p2_s1566 (ck_S1 q0l_p2_s1561 ck_S0)) (ck_E1 (ck_S1 q0l_p2_s1567 ck_S0) (ck_E1 (ck_S1 q0l_p2_s1568 ck_S0) ck_E0)))))))⟩ (by decide +kernel)
theorem q0l_p2_s1585 : ck_Ok q0_O X LX 219 p2_s1585 := q0_l p2_s1585_s (by decide +kernel)
theorem q0l_p2_s1586 : ck_Ok q0_O X LX 219 p2_s1586 := q0_l p2_s1586_s (by decide +kernel)
noncomputable def q_p2_s1587 : ck_Sum := (((23 : Nat), (1 : Nat), (6 : Nat)), (245 : Nat), [.inr (.inr (.inl (1 : Nat))), .inl ((0 : Int), (30 : Int), []), .inl ((0 : Int), (1 : Int), [])], ([], [((3 : Nat), (8 : Int), (0 : Nat))], [((3 : Nat), (6 : Int), (6 : Int), ((0 : Int), (299 : Int), [((10 : Nat), (0 : Int))]))]), ([((1 : Nat), (15 : Int), (15 : Int)), ((206 : Nat), (2 : Int), (8 : Int)), ((220 : Nat), (3 : Int), (3 : Int)), ((221 : Nat), (0 : Int), (47 : Int)), ((222 : Nat), (3 : Int), (3 : Int)), ((223 : Nat), (0 : Int), (179 : Int))], []), [(.inl (0 : Nat), (245 : Nat), ([], [], [])), (.inr (some (.inl ((0 : Int), (2147483647 : Int), []))), (245 : Nat), ([], [], [((1 : Nat), (15 : Int), (15 : Int), ck_one 1)]))])
set_option maxRecDepth 100000 in
theorem q_p2_s1587_s : ck_Ok q0_O X LX 218 q_p2_s1587 := ck_okq (cuts := [((19 : Nat), [some (.inr (.inr (.inl (1 : Nat)))), some (.inl ((0 : Int), (30 : Int), [])), some (.inl ((0 : Int), (1 : Int), [])), some (.inl ((0 : Int), (5 : Int), [])), some (.inl ((1 : Int), (6 : Int), []))], ([], [((3 : Nat), (8 : Int), (0 : Nat))], [((1 : Nat), (15 : Int), (15 : Int), ck_one 1), ((3 : Nat), (6 : Int), (6 : Int), ((0 : Int), (299 : Int), [((10 : Nat), (0 : Int))]))]), (100 : Nat), .inl (4 : Nat), true)]) (f := 166) ⟨q0_nmu, (ck_E1 (ck_S1 q0l_p2_s1558 ck_S0) (ck_E1 (ck_S1 Q240 ck_S0) (ck_E1 (ck_S1 q0l_p2_s1563 ck_S0) (ck_E1 (ck_S1 q0l_p2_s1585 (ck_S1 q0l_p2_s1586 ck_S0)) ck_E0))))⟩ (by decide +kernel)
theorem q0l_p2_s253 : ck_Ok q0_O X LX 129 p2_s253 := q0_l p2_s253_s (by decide +kernel)
theorem q0l_p2_s1605 : ck_Ok q0_O X LX 47 p2_s1605 := q0_l p2_s1605_s (by decide +kernel)
noncomputable def q_p2_s1606 : ck_Sum := (((21 : Nat), (0 : Nat), (0 : Nat)), (245 : Nat), [.inr (.inr (.inl (1 : Nat))), .inl ((0 : Int), (299 : Int), [])], ([], [((3 : Nat), (8 : Int), (0 : Nat))], []), ([((1 : Nat), (15 : Int), (15 : Int)), ((206 : Nat), (2 : Int), (8 : Int)), ((220 : Nat), (3 : Int), (3 : Int)), ((221 : Nat), (0 : Int), (47 : Int))], []), [(.inr (some (.inl ((-2147483648 : Int), (2147483647 : Int), []))), (245 : Nat), ([], [], [((1 : Nat), (15 : Int), (15 : Int), ck_one 1)]))])
set_option maxRecDepth 100000 in
theorem q_p2_s1606_s : ck_Ok q0_O X LX 223 q_p2_s1606 := ck_okq (cuts := []) (f := 90) ⟨q0_nmu, (ck_E1 (ck_S1 q0l_p2_s253 ck_S0) (ck_E1 (ck_S1 Q240 ck_S0) (ck_E1 (ck_S1 q0l_p2_s1605 ck_S0) ck_E0)))⟩ (by decide +kernel)
theorem q0l_p2_s1610 : ck_Ok q0_O X LX 53 p2_s1610 := q0_l p2_s1610_s (by decide +kernel)
noncomputable def q_p2_s1611 : ck_Sum := (((21 : Nat), (0 : Nat), (0 : Nat)), (245 : Nat), [.inr (.inr (.inl (1 : Nat))), .inl ((-2147483648 : Int), (2147483647 : Int), [])], ([], [((3 : Nat), (8 : Int), (0 : Nat))], []), ([((1 : Nat), (15 : Int), (15 : Int)), ((206 : Nat), (2 : Int), (8 : Int)), ((220 : Nat), (3 : Int), (3 : Int)), ((221 : Nat), (0 : Int), (47 : Int))], []), [(.inr (some (.inl (ck_one (-1)))), (245 : Nat), ([], [], [((1 : Nat), (15 : Int), (15 : Int), ck_one 1)])), (.inr (some (.inl ((0 : Int), (23 : Int), []))), (245 : Nat), ([], [], [((1 : Nat), (15 : Int), (15 : Int), ck_one 1)]))])
set_option maxRecDepth 100000 in
theorem q_p2_s1611_s : ck_Ok q0_O X LX 52 q_p2_s1611 := ck_okq (cuts := [((6 : Nat), [some (.inr (.inr (.inl (1 : Nat)))), some (.inl ((-2147483648 : Int), (2147483647 : Int), [])), some (.inl ((0 : Int), (24 : Int), []))], ([], [((3 : Nat), (8 : Int), (0 : Nat))], [((1 : Nat), (15 : Int), (15 : Int), ck_one 1)]), (100 : Nat), .inl (2 : Nat), true)]) (f := 170) ⟨q0_nmu, (ck_E1 (ck_S1 Q240 ck_S0) (ck_E1 (ck_S1 q0l_p2_s332 ck_S0) (ck_E1 (ck_S1 q0l_p2_s350 ck_S0) (ck_E1 (ck_S1 q0l_p2_s1610 ck_S0) ck_E0))))⟩ (by decide +kernel)
theorem q0l_p2_s351 : ck_Ok q0_O X LX 67 p2_s351 := q0_l p2_s351_s (by decide +kernel)
noncomputable def q_p2_s1615 : ck_Sum := (((21 : Nat), (0 : Nat), (0 : Nat)), (245 : Nat), [.inr (.inr (.inl (1 : Nat))), .inl ((0 : Int), (299 : Int), []), .inl ((0 : Int), (1 : Int), [])], ([], [((3 : Nat), (8 : Int), (0 : Nat))], []), ([((1 : Nat), (15 : Int), (15 : Int)), ((206 : Nat), (2 : Int), (8 : Int)), ((220 : Nat), (3 : Int), (3 : Int)), ((221 : Nat), (0 : Int), (47 : Int))], []), [(.inr (some (.inl ((-2147483648 : Int), (2147483647 : Int), []))), (245 : Nat), ([], [], [((1 : Nat), (15 : Int), (15 : Int), ck_one 1)]))])
set_option maxRecDepth 100000 in
theorem q_p2_s1615_s : ck_Ok q0_O X LX 225 q_p2_s1615 := ck_okq (cuts := [((14 : Nat), [some (.inr (.inr (.inl (1 : Nat)))), some (.inl ((0 : Int), (299 : Int), [])), some (.inl ((0 : Int), (1 : Int), [])), some (.inl ((-2147483648 : Int), (2147483647 : Int), [])), some (.inl ((0 : Int), (24 : Int), [])), none], ([], [((3 : Nat), (8 : Int), (0 : Nat))], [((1 : Nat), (15 : Int), (15 : Int), ck_one 1)]), (100 : Nat), .inl (4 : Nat), true)]) (f := 226) ⟨q0_nmu, (ck_E1 (ck_S1 q0l_p2_s253 ck_S0) (ck_E1 (ck_S1 Q240 ck_S0) (ck_E1 (ck_S1 q0l_p2_s332 ck_S0) (ck_E1 (ck_S1 q0l_p2_s335 (ck_S1 q0l_p2_s350 ck_S0)) (ck_E1 (ck_S1 q0l_p2_s351 ck_S0) ck_E0)))))⟩ (by decide +kernel)
noncomputable def q_p2_s1765 : ck_Sum := (((21 : Nat), (0 : Nat), (0 : Nat)), (245 : Nat), [.inr (.inr (.inl (1 : Nat)))], ([], [((3 : Nat), (8 : Int), (0 : Nat))], [((3 : Nat), (6 : Int), (6 : Int), ((0 : Int), (299 : Int), [((10 : Nat), (0 : Int))]))]), ([((1 : Nat), (15 : Int), (15 : Int)), ((206 : Nat), (2 : Int), (8 : Int)), ((220 : Nat), (3 : Int), (3 : Int)), ((221 : Nat), (0 : Int), (47 : Int))], []), [(.inr (some (.inl ((-2147483648 : Int), (2147483647 : Int), []))), (245 : Nat), ([], [], [((1 : Nat), (15 : Int), (15 : Int), ck_one 1)]))])
set_option maxRecDepth 100000 in
theorem q_p2_s1765_s : ck_Ok q0_O X LX 68 q_p2_s1765 := ck_okq (cuts := [((8 : Nat), [some (.inr (.inr (.inl (1 : Nat)))), some (.inl ((-2147483648 : Int), (2147483647 : Int), [])), some (.inl ((0 : Int), (24 : Int), []))], ([], [((3 : Nat), (8 : Int), (0 : Nat))], [((1 : Nat), (15 : Int), (15 : Int), ck_one 1), ((3 : Nat), (6 : Int), (6 : Int), ((0 : Int), (299 : Int), [((10 : Nat), (0 : Int))]))]), (100 : Nat), .inl (2 : Nat), true)]) (f := 174) ⟨q0_nmu, (ck_E1 (ck_S1 Q240 ck_S0) (ck_E1 (ck_S1 q0l_p2_s331 ck_S0) (ck_E1 (ck_S1 q0l_p2_s350 ck_S0) (ck_E1 (ck_S1 q0l_p2_s351 ck_S0) ck_E0))))⟩ (by decide +kernel)
noncomputable def q_p2_s1766 : ck_Sum := (((21 : Nat), (0 : Nat), (0 : Nat)), (245 : Nat), [.inr (.inr (.inl (1 : Nat))), .inl (ck_one (-1))], ([], [((3 : Nat), (8 : Int), (0 : Nat))], [((3 : Nat), (6 : Int), (6 : Int), ((0 : Int), (299 : Int), [((10 : Nat), (0 : Int))]))]), ([((1 : Nat), (15 : Int), (15 : Int)), ((206 : Nat), (2 : Int), (8 : Int)), ((220 : Nat), (3 : Int), (3 : Int)), ((221 : Nat), (0 : Int), (47 : Int))], []), [(.inr (some (.inl ((-2147483648 : Int), (2147483647 : Int), []))), (245 : Nat), ([], [], [((1 : Nat), (15 : Int), (15 : Int), ck_one 1)]))])
set_option maxRecDepth 100000 in
theorem q_p2_s1766_s : ck_Ok q0_O X LX 65 q_p2_s1766 := ck_okq (cuts := [((8 : Nat), [some (.inr (.inr (.inl (1 : Nat)))), some (.inl (ck_one (-1))), some (.inl ((-2147483648 : Int), (2147483647 : Int), [])), some (.inl ((0 : Int), (24 : Int), [])), none], ([], [((3 : Nat), (8 : Int), (0 : Nat))], [((1 : Nat), (15 : Int), (15 : Int), ck_one 1), ((3 : Nat), (6 : Int), (6 : Int), ((0 : Int), (299 : Int), [((10 : Nat), (0 : Int))]))]), (100 : Nat), .inl (3 : Nat), true)]) (f := 178) ⟨q0_nmu, (ck_E1 (ck_S1 Q240 ck_S0) (ck_E1 (ck_S1 q0l_p2_s331 ck_S0) (ck_E1 (ck_S1 q0l_p2_s352 ck_S0) ck_E0)))⟩ (by decide +kernel)
theorem q0l_p2_s1764 : ck_Ok q0_O X LX 69 p2_s1764 := q0_l p2_s1764_s (by decide +kernel)
theorem q0l_p2_s1767 : ck_Ok q0_O X LX 9 p2_s1767 := q0_l p2_s1767_s (by decide +kernel)
noncomputable def q_p2_s1768 : ck_Sum := (((22 : Nat), (0 : Nat), (0 : Nat)), (245 : Nat), [.inr (.inr (.inl (1 : Nat))), .inl ((10 : Int), (2147483647 : Int), [])], ([], [((3 : Nat), (8 : Int), (0 : Nat))], [((3 : Nat), (6 : Int), (6 : Int), ((0 : Int), (299 : Int), [((10 : Nat), (0 : Int))]))]), ([((1 : Nat), (15 : Int), (15 : Int)), ((206 : Nat), (2 : Int), (8 : Int)), ((220 : Nat), (3 : Int), (3 : Int)), ((221 : Nat), (0 : Int), (47 : Int))], []), [(.inr (some (.inl ((-2147483648 : Int), (2147483647 : Int), []))), (245 : Nat), ([], [], [])), (.inr (some (.inl ((0 : Int), (9999 : Int), []))), (245 : Nat), ([], [], []))])
set_option maxRecDepth 100000 in
theorem q_p2_s1768_s : ck_Ok q0_O X LX 63 q_p2_s1768 := ck_okq (cuts := []) (f := 84) ⟨q0_nmu, (ck_E1 (ck_S1 q0l_p2_s1764 ck_S0) (ck_E1 (ck_S1 q_p2_s1765_s ck_S0) (ck_E1 (ck_S1 q_p2_s1766_s ck_S0) (ck_E1 (ck_S1 q0l_p2_s1767 ck_S0) ck_E0))))⟩ (by decide +kernel)
noncomputable def q_p2_h20 : ck_Sum := (((25 : Nat), (2 : Nat), (12 : Nat)), (245 : Nat), [.inr (.inr (.inl (1 : Nat))), .inl ((0 : Int), (7 : Int), []), .inl ((0 : Int), (9 : Int), []), .inr (.inr (.inl (245 : Nat)))], ([], [((3 : Nat), (8 : Int), (0 : Nat))], [((3 : Nat), (6 : Int), (6 : Int), ((0 : Int), (299 : Int), [((10 : Nat), (0 : Int))]))]), ([((1 : Nat), (15 : Int), (15 : Int)), ((206 : Nat), (2 : Int), (8 : Int)), ((220 : Nat), (3 : Int), (3 : Int)), ((221 : Nat), (0 : Int), (47 : Int)), ((245 : Nat), (0 : Int), (0 : Int))], []), [(.inr (some (.inl (ck_one 1))), (245 : Nat), ([], [], [])), (.inr (some (.inl (ck_one 0))), (245 : Nat), ([], [], [])), (.inr (some (.inl (ck_one 2))), (245 : Nat), ([], [], []))])
set_option maxRecDepth 100000 in
theorem q_p2_h20_s : ck_Ok q0_O X LX 137 q_p2_h20 := ck_okq (cuts := []) (f := 92) ⟨q0_nmu, (ck_E1 (ck_S1 q_p2_s357_s ck_S0) ck_E0)⟩ (by decide +kernel)
noncomputable def q_p2_h200 : ck_Sum := (((24 : Nat), (1 : Nat), (6 : Nat)), (245 : Nat), [.inr (.inr (.inl (1 : Nat))), .inl ((0 : Int), (30 : Int), []), .inl ((0 : Int), (1 : Int), []), .inr (.inr (.inl (245 : Nat)))], ([], [((3 : Nat), (8 : Int), (0 : Nat))], [((3 : Nat), (6 : Int), (6 : Int), ((0 : Int), (299 : Int), [((10 : Nat), (0 : Int))]))]), ([((1 : Nat), (15 : Int), (15 : Int)), ((206 : Nat), (2 : Int), (8 : Int)), ((220 : Nat), (3 : Int), (3 : Int)), ((221 : Nat), (0 : Int), (47 : Int)), ((222 : Nat), (3 : Int), (3 : Int)), ((223 : Nat), (0 : Int), (179 : Int)), ((224 : Nat), (3 : Int), (3 : Int)), ((225 : Nat), (0 : Int), (185 : Int)), ((245 : Nat), (0 : Int), (0 : Int))], []), [(.inr (some (.inl (ck_one 1))), (245 : Nat), ([], [], [])), (.inr (some (.inl (ck_one 0))), (245 : Nat), ([], [], [((224 : Nat), (3 : Int), (3 : Int), ((1 : Int), (31 : Int), [])), ((1 : Nat), (15 : Int), (15 : Int), ck_one 1)]))])
set_option maxRecDepth 100000 in
theorem q_p2_h200_s : ck_Ok q0_O X LX 212 q_p2_h200 := ck_okq (cuts := []) (f := 92) ⟨q0_nmu, (ck_E1 (ck_S1 q_p2_s1569_s ck_S0) ck_E0)⟩ (by decide +kernel)
noncomputable def q_p2_h203 : ck_Sum := (((24 : Nat), (1 : Nat), (6 : Nat)), (245 : Nat), [.inr (.inr (.inl (1 : Nat))), .inl ((0 : Int), (30 : Int), []), .inl ((0 : Int), (1 : Int), []), .inr (.inr (.inl (245 : Nat)))], ([], [((3 : Nat), (8 : Int), (0 : Nat))], [((3 : Nat), (6 : Int), (6 : Int), ((0 : Int), (299 : Int), [((10 : Nat), (0 : Int))]))]), ([((1 : Nat), (15 : Int), (15 : Int)), ((206 : Nat), (2 : Int), (8 : Int)), ((220 : Nat), (3 : Int), (3 : Int)), ((221 : Nat), (0 : Int), (47 : Int)), ((222 : Nat), (3 : Int), (3 : Int)), ((223 : Nat), (0 : Int), (179 : Int)), ((245 : Nat), (0 : Int), (0 : Int))], []), [(.inr (some (.inl (ck_one 1))), (245 : Nat), ([], [], [])), (.inr (some (.inl (ck_one 0))), (245 : Nat), ([], [], [((245 : Nat), (0 : Int), (0 : Int), ((0 : Int), (2147483647 : Int), [])), ((1 : Nat), (15 : Int), (15 : Int), ck_one 1)]))])
set_option maxRecDepth 100000 in
theorem q_p2_h203_s : ck_Ok q0_O X LX 217 q_p2_h203 := ck_okq (cuts := []) (f := 92) ⟨q0_nmu, (ck_E1 (ck_S1 q_p2_s1587_s ck_S0) ck_E0)⟩ (by decide +kernel)
noncomputable def q_p2_h211 : ck_Sum := (((22 : Nat), (0 : Nat), (0 : Nat)), (245 : Nat), [.inr (.inr (.inl (1 : Nat))), .inl ((0 : Int), (299 : Int), []), .inr (.inr (.inl (245 : Nat)))], ([], [((3 : Nat), (8 : Int), (0 : Nat))], []), ([((1 : Nat), (15 : Int), (15 : Int)), ((206 : Nat), (2 : Int), (8 : Int)), ((220 : Nat), (3 : Int), (3 : Int)), ((221 : Nat), (0 : Int), (47 : Int)), ((245 : Nat), (0 : Int), (0 : Int))], []), [(.inr (some (.inl (ck_one 0))), (245 : Nat), ([], [], [((1 : Nat), (15 : Int), (15 : Int), ck_one 1)]))])
set_option maxRecDepth 100000 in
theorem q_p2_h211_s : ck_Ok q0_O X LX 222 q_p2_h211 := ck_okq (cuts := []) (f := 90) ⟨q0_nmu, (ck_E1 (ck_S1 q_p2_s1606_s ck_S0) ck_E0)⟩ (by decide +kernel)
noncomputable def q_p2_h214 : ck_Sum := (((22 : Nat), (0 : Nat), (0 : Nat)), (245 : Nat), [.inr (.inr (.inl (1 : Nat))), .inl ((0 : Int), (299 : Int), []), .inl ((0 : Int), (1 : Int), []), .inr (.inr (.inl (245 : Nat)))], ([], [((3 : Nat), (8 : Int), (0 : Nat))], []), ([((1 : Nat), (15 : Int), (15 : Int)), ((206 : Nat), (2 : Int), (8 : Int)), ((220 : Nat), (3 : Int), (3 : Int)), ((221 : Nat), (0 : Int), (47 : Int)), ((245 : Nat), (0 : Int), (0 : Int))], []), [(.inr (some (.inl (ck_one 0))), (245 : Nat), ([], [], [((1 : Nat), (15 : Int), (15 : Int), ck_one 1)]))])
set_option maxRecDepth 100000 in
theorem q_p2_h214_s : ck_Ok q0_O X LX 224 q_p2_h214 := ck_okq (cuts := []) (f := 92) ⟨q0_nmu, (ck_E1 (ck_S1 q_p2_s1615_s ck_S0) ck_E0)⟩ (by decide +kernel)
end GH0
end
