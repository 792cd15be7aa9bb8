/-! 22.cf -/
section
/-! THE CHECKER's locals, stack and facts hold. -/
section CF
variable {O : gm_Or} {σ : Nat → Int} {n : Nat} {K : gm_K} {R : gm_R} {M : gm_M} {L : gm_L} {AL : ck_AL} {AS : ck_AS} {st : List gm_V} {F : ck_F}
theorem ck_so_s {a : ck_A} {v : gm_V} (h : ck_ga σ a v) : gm_sort v = ck_so a := by
  rcases a with a | a | k | k
  · obtain ⟨x, rfl, -⟩ := h; rfl
  · obtain ⟨x, rfl, -⟩ := h; rfl
  · cases h; rfl
  · cases h; rfl
theorem ck_set {a : ck_A} {v : gm_V} {j : Nat} (h : ck_gl σ AL L) (ha : ck_ga σ a v) : ck_gl σ (AL.set j (some a)) (L.set j (some v)) := by
  refine ⟨by simp [h.1], fun i b hb => ?_⟩
  rw [List.getElem?_set] at hb ⊢
  by_cases e : j = i
  · rw [if_pos e] at hb ⊢
    by_cases e2 : i < AL.length
    · rw [e, if_pos e2] at hb
      rw [e, if_pos (by rw [← h.1]; exact e2)]
      cases hb
      exact ⟨v, rfl, ha⟩
    · rw [e, if_neg e2] at hb
      cases hb
  · rw [if_neg e] at hb ⊢
    exact h.2 i b hb
theorem ck_set0 {j : Nat} (h : ck_gl σ AL L) : ck_gl σ (AL.set j none) (L.set j none) := by
  refine ⟨by simp [h.1], fun i b hb => ?_⟩
  rw [List.getElem?_set] at hb ⊢
  by_cases e : j = i
  · rw [if_pos e] at hb
    split at hb <;> cases hb
  · rw [if_neg e] at hb ⊢
    exact h.2 i b hb
theorem ck_lc_s {j : Nat} (h : ck_gl σ AL L) : ck_gl σ (ck_lc AL j) (gm_lc L j) := by
  cases j with
  | zero => exact h
  | succ i =>
    refine ⟨?_, fun m b hb => ?_⟩
    · have e1 : (ck_lc AL (i + 1)).length = AL.length := by
        simp only [ck_lc]
        split <;> simp
      rw [e1, gm_lc_len, h.1]
    · have hb2 : AL[m]? = some (some b) ∧ ¬ (m = i ∧ ck_so b = 1) := by
        simp only [ck_lc] at hb
        split at hb
        · rename_i z hz
          rw [List.getElem?_set] at hb
          by_cases e : i = m
          · rw [if_pos e] at hb
            split at hb <;> cases hb
          · rw [if_neg e] at hb
            exact ⟨hb, fun h9 => e h9.1.symm⟩
        · rename_i hz
          refine ⟨hb, fun h9 => ?_⟩
          obtain ⟨rfl, h10⟩ := h9
          rcases b with b | b | b
          · cases h10
          · exact hz b hb
          · cases h10
      obtain ⟨u, hu1, hu2⟩ := h.2 m b hb2.1
      refine ⟨u, ?_, hu2⟩
      have hu3 := ck_so_s hu2
      simp only [gm_lc]
      split
      · rename_i z hz
        rw [List.getElem?_set]
        by_cases e : i = m
        · exfalso
          subst e
          rw [hz] at hu1
          cases hu1
          exact hb2.2 ⟨rfl, hu3.symm⟩
        · rw [if_neg e]; exact hu1
      · exact hu1
theorem ck_lst_s {a : ck_A} {v : gm_V} {j : Nat} (h : ck_gl σ AL L) (ha : ck_ga σ a v) : ck_gl σ (ck_lst AL j a) (gm_lst L j v) := by
  rcases a with a | a | k | k
  · obtain ⟨x, rfl, h2⟩ := ha
    exact ck_set (ck_lc_s h) ⟨x, rfl, h2⟩
  · obtain ⟨x, rfl, h2⟩ := ha
    exact ck_set0 (ck_set (ck_lc_s h) (a := .inr (.inl a)) ⟨x, rfl, h2⟩)
  · cases ha
    exact ck_set (ck_lc_s h) (a := .inr (.inr (.inl k))) rfl
  · cases ha
    exact ck_set (ck_lc_s h) (a := .inr (.inr (.inr k))) rfl
/-- the stack, if locals or heap change -/
theorem ck_sl_s {L' : gm_L} : ∀ {AS : ck_AS} {st : List gm_V}, ck_gs σ L M AS st → ck_gs σ L' M (ck_sl AS) st := by
  intro AS
  induction AS with
  | nil => intro st h; exact h
  | cons a AS ih =>
    intro st h
    obtain ⟨v, vs, rfl, ⟨h1, h2⟩, h3⟩ := h
    refine ⟨v, vs, rfl, ⟨h1, ?_⟩, ih h3⟩
    show ck_gr L' M (match a.2 with | some (.inl _) => none | s => s) v
    cases h5 : a.2 with
    | none => trivial
    | some q =>
      cases q with
      | inl j => trivial
      | inr q => rcases q with q | q <;> (rw [h5] at h2; exact h2)
theorem ck_sh_s {M' : gm_M} : ∀ {AS : ck_AS} {st : List gm_V}, ck_gs σ L M AS st → ck_gs σ L M' (ck_sh AS) st := by
  intro AS
  induction AS with
  | nil => intro st h; exact h
  | cons a AS ih =>
    intro st h
    obtain ⟨v, vs, rfl, ⟨h1, h2⟩, h3⟩ := h
    refine ⟨v, vs, rfl, ⟨h1, ?_⟩, ih h3⟩
    show ck_gr L M' (match a.2 with | some (.inr _) => none | s => s) v
    cases h5 : a.2 with
    | none => trivial
    | some q =>
      cases q with
      | inl j => rw [h5] at h2; exact h2
      | inr q => trivial
theorem ck_gr_x {q : Nat × Int} {x y : Int} (hs : ck_gr L M (some (.inl q)) (gm_vi x)) (hy : L[q.1]? = some (some (gm_vi y))) : x = y + q.2 := by
  obtain ⟨u, h1, h2⟩ := hs
  rw [hy] at h1
  cases h1
  rcases h2 with ⟨h2, h3⟩ | ⟨z, h2, h3⟩
  · cases h2; omega
  · cases h2; cases h3; rfl
theorem ck_rL_s {s : ck_S} {a : ck_I} {x : Int} (h : ck_gl σ AL L) (hs : ck_gr L M s (gm_vi x)) (hx : gm_ir x) (ha : ck_gi σ a x) : ck_gl σ (ck_rL s a AL) L := by
  unfold ck_rL
  split
  · rename_i q
    split
    · rename_i b0 hb0
      obtain ⟨u, hu, y, rfl, hy1, hy2⟩ := h.2 q.1 _ hb0
      have hxy := ck_gr_x hs hu
      refine ⟨by simp [h.1], fun i b hb => ?_⟩
      rw [List.getElem?_set] at hb
      by_cases e : q.1 = i
      · rw [if_pos e] at hb
        split at hb
        · cases hb
          rw [← e]
          have := ha.1
          have := ha.2.1
          refine ⟨gm_vi y, hu, y, rfl, hy1, ?_, ?_, hy2.2.2⟩
          · dsimp only
            split
            · omega
            · exact hy2.1
          · dsimp only
            split
            · omega
            · exact hy2.2.1
        · cases hb
      · rw [if_neg e] at hb
        exact h.2 i b hb
    · exact h
  · exact h
theorem ck_sm_s {s : ck_S} {x z : Int} (hs : ck_gr L M s (gm_vi x)) : ck_gr L M (ck_sm s z) (gm_vi (x + z)) := by
  unfold ck_sm
  split
  · rename_i q
    obtain ⟨u, h1, h2⟩ := hs
    refine ⟨u, h1, Or.inr ?_⟩
    rcases h2 with ⟨h2, h3⟩ | ⟨y, h2, h3⟩
    · exact ⟨x, h2.symm, by show gm_vi _ = gm_vi (x + (q.2 + z)); rw [h3, Int.zero_add]⟩
    · refine ⟨y, h2, ?_⟩
      cases h3
      show gm_vi _ = gm_vi (y + (q.2 + z))
      rw [Int.add_assoc]
  · rename_i q
    have h1 : gm_vi x = gm_vi (M q.1 q.2.1 + q.2.2) := hs
    cases h1
    show gm_vi _ = gm_vi (M q.1 q.2.1 + (q.2.2 + z))
    rw [Int.add_assoc]
  · rename_i q
    have h1 : gm_vi x = gm_vi (M q.1 q.2.1 - M q.2.2.1 q.2.2.2.1 + q.2.2.2.2) := hs
    cases h1
    show gm_vi _ = gm_vi (M q.1 q.2.1 - M q.2.2.1 q.2.2.2.1 + (q.2.2.2.2 + z))
    rw [Int.add_assoc]
  · trivial
theorem ck_sb_s {i : Instr} {f : Int → Int → Int} {a b : ck_I} {s t : ck_S} {x y : Int} (hf : gm_bin i = some f) (ha : ck_gi σ a x) (hs : ck_gr L M s (gm_vi x)) (hb : ck_gi σ b y) (ht : ck_gr L M t (gm_vi y)) : ck_gr L M (ck_sb i a s b t) (gm_vi (gm_w (f x y))) := by
  have a1 := ha.1
  have a2 := ha.2.1
  have b1 := hb.1
  have b2 := hb.2.1
  unfold ck_sb
  split
  · cases hf
    split
    · rename_i e
      rw [Bool.and_eq_true] at e
      have e1 := ck_sg_s hb e.1
      have e2 := ck_in_s (σ := σ) (x := x + y) (a := (a.1 + b.1, a.2.1 + b.1, [])) ⟨by dsimp only; omega, by dsimp only; omega, ck_gt_none⟩ e.2
      rw [gm_ir_w e2, e1]
      exact ck_sm_s hs
    · split
      · rename_i e
        rw [Bool.and_eq_true] at e
        have e1 := ck_sg_s ha e.1
        have e2 := ck_in_s (σ := σ) (x := x + y) (a := (b.1 + a.1, b.2.1 + a.1, [])) ⟨by dsimp only; omega, by dsimp only; omega, ck_gt_none⟩ e.2
        rw [gm_ir_w e2, Int.add_comm, e1]
        exact ck_sm_s ht
      · trivial
  · cases hf
    split
    · rename_i e
      rw [Bool.and_eq_true] at e
      have e1 := ck_sg_s hb e.1
      have e2 := ck_in_s (σ := σ) (x := x - y) (a := (a.1 - b.1, a.2.1 - b.1, [])) ⟨by dsimp only; omega, by dsimp only; omega, ck_gt_none⟩ e.2
      rw [gm_ir_w e2, Int.sub_eq_add_neg, e1]
      exact ck_sm_s hs
    · split
      · rename_i e
        have e2 := ck_in_s (σ := σ) (x := x - y) (a := (a.1 - b.2.1, a.2.1 - b.1, [])) ⟨by dsimp only; omega, by dsimp only; omega, ck_gt_none⟩ e
        rw [gm_ir_w e2]
        split
        · rename_i p q
          have h1 : gm_vi x = gm_vi (M p.1 p.2.1 + p.2.2) := hs
          have h2 : gm_vi y = gm_vi (M q.1 q.2.1 + q.2.2) := ht
          have h3 : x = M p.1 p.2.1 + p.2.2 := by cases h1; rfl
          have h4 : y = M q.1 q.2.1 + q.2.2 := by cases h2; rfl
          show gm_vi _ = gm_vi (M p.1 p.2.1 - M q.1 q.2.1 + (p.2.2 - q.2.2))
          rw [show x - y = M p.1 p.2.1 - M q.1 q.2.1 + (p.2.2 - q.2.2) by omega]
        · trivial
      · trivial
  · trivial
theorem ck_fi_s {k : Nat} {lo hi : Int} {a : ck_I} (h : ck_gf σ F n K R M) (hf : ck_fi F k lo hi = some a) : k ≤ n ∧ ∀ j, lo ≤ j → j ≤ hi → gm_ir (M k j) ∧ ck_gi σ a (M k j) := by
  rw [ck_fi_def] at hf
  cases hq : F.2.2.find? fun q => q.1 == k && (decide (q.2.1 ≤ lo) && decide (hi ≤ q.2.2.1)) with
  | none => rw [hq] at hf; cases hf
  | some q =>
    rw [hq] at hf
    simp only [Option.map_some, Option.some.injEq] at hf
    have h1 := List.find?_some hq
    have h2 := h.2.2 q (List.mem_of_find?_eq_some hq)
    simp only [Bool.and_eq_true, beq_iff_eq, decide_eq_true_eq] at h1
    obtain ⟨h3, h4, h5⟩ := h1
    subst h3 hf
    exact ⟨h2.1, fun j h6 h7 => h2.2 j (Int.le_trans h4 h6) (Int.le_trans h7 h5)⟩
theorem ck_rd_s {k : Nat} {lo hi : Int} {a : ck_I} (hF : gm_Fx O n K R M) (h : ck_gf σ F n K R M) (hf : ck_rd O F k lo hi = some a) : k ≤ n ∧ ∀ j, lo ≤ j → j ≤ hi → gm_ir (M k j) ∧ ck_gi σ a (M k j) := by
  unfold ck_rd at hf
  cases h1 : ck_fi F k lo hi with
  | some b => rw [h1] at hf; cases hf; exact ck_fi_s h h1
  | none =>
    rw [h1] at hf
    dsimp only at hf
    cases h2 : gm_tyr O k lo hi with
    | none => rw [h2] at hf; cases hf
    | some t =>
      rw [h2] at hf
      cases hf
      obtain ⟨h3, h4⟩ := gm_tyr_s hF h2
      exact ⟨h3, fun j h5 h6 => ⟨(h4 j h5 h6).1, (h4 j h5 h6).2.1, (h4 j h5 h6).2.2, fun _ h => nomatch h⟩⟩
theorem ck_fR_s {k : Nat} {j : Int} {r : Nat} (hF : gm_Fx O n K R M) (h : ck_gf σ F n K R M) (hf : ck_fR O F k j = some r) : k ≤ n ∧ R k j = r := by
  rw [ck_fR_def] at hf
  cases hq : O.2.1 k j with
  | some v =>
    rw [hq] at hf
    cases hf
    exact hF.2.1 k j r hq
  | none =>
    rw [hq] at hf
    dsimp only at hf
    cases hp : F.2.1.find? fun q => q.1 == k && decide (q.2.1 = j) with
    | none => rw [hp] at hf; cases hf
    | some q =>
      rw [hp] at hf
      simp only [Option.map_some, Option.some.injEq] at hf
      have h1 := List.find?_some hp
      have h2 := h.2.1 q (List.mem_of_find?_eq_some hp)
      simp only [Bool.and_eq_true, beq_iff_eq, decide_eq_true_eq] at h1
      obtain ⟨h3, h4⟩ := h1
      subst h3 h4 hf
      exact h2
theorem ck_kd_s {k : Nat} {q : Nat × Nat} (hF : gm_Fx O n K R M) (h : ck_gf σ F n K R M) (hf : ck_kd O F k = some q) : (1 ≤ k ∧ k ≤ n) ∧ K k = q := by
  rw [ck_kd_def] at hf
  cases hq : O.1 k with
  | some v =>
    rw [hq] at hf
    cases hf
    obtain ⟨h1, h2, h3⟩ := hF.1 k q hq
    exact ⟨⟨h1, h2⟩, h3⟩
  | none =>
    rw [hq] at hf
    dsimp only at hf
    cases hp : F.1.find? fun q => q.1 == k with
    | none => rw [hp] at hf; cases hf
    | some p =>
      rw [hp] at hf
      simp only [Option.map_some, Option.some.injEq] at hf
      have h1 := List.find?_some hp
      have h2 := h.1 p (List.mem_of_find?_eq_some hp)
      simp only [beq_iff_eq] at h1
      subst h1 hf
      exact h2
theorem ck_pcs_s {k : Nat} {b : ck_I} (h : ck_gf σ F n K R M) : ∀ (f : Nat) (lo hi : Int), ck_pcs F k b f lo hi = true → (lo ≤ hi → k ≤ n) ∧ ∀ j, lo ≤ j → j ≤ hi → gm_ir (M k j) ∧ ck_gi σ b (M k j) := by
  intro f
  induction f with
  | zero =>
    intro lo hi hc
    have hc := of_decide_eq_true (show decide (hi < lo) = true from hc)
    exact ⟨fun _ => by omega, fun j _ _ => by omega⟩
  | succ f ih =>
    intro lo hi hc
    unfold ck_pcs at hc
    simp only [fl_and, fl_or, fl_beq, fl_blt, fl_le_eq, fl_lt_eq, fl_ie_eq, fl_any_eq, fl_all_eq, fl_find_eq, fl_lk_eq, fl_nth_eq] at hc
    rw [Bool.or_eq_true, decide_eq_true_eq] at hc
    rcases hc with hc | hc
    · exact ⟨fun _ => by omega, fun j _ _ => by omega⟩
    · cases hq : F.2.2.find? fun q => q.1 == k && (decide (q.2.1 ≤ lo) && decide (lo ≤ q.2.2.1)) with
      | none => rw [hq] at hc; cases hc
      | some q =>
        rw [hq] at hc
        dsimp only at hc
        rw [Bool.and_eq_true] at hc
        have h1 := List.find?_some hq
        have h2 := h.2.2 q (List.mem_of_find?_eq_some hq)
        simp only [Bool.and_eq_true, beq_iff_eq, decide_eq_true_eq] at h1
        obtain ⟨h3, h4, h5⟩ := h1
        subst h3
        refine ⟨fun _ => h2.1, fun j h6 h7 => ?_⟩
        by_cases e : j ≤ q.2.2.1
        · have h8 := h2.2 j (by omega) e
          exact ⟨h8.1, ck_leI_s hc.1 h8.2⟩
        · exact (ih _ _ hc.2).2 j (by omega) h7
theorem ck_leF_s {G : ck_F} (hF : gm_Fx O n K R M) (h : ck_gf σ F n K R M) (hl : ck_leF O F G = true) : ck_gf σ G n K R M := by
  rw [ck_leF_def] at hl
  simp only [Bool.and_eq_true] at hl
  obtain ⟨h1, h2, h3⟩ := hl
  refine ⟨fun q hq => ?_, fun q hq => ?_, fun q hq => ?_⟩
  · have h4 := List.all_eq_true.mp h1 q hq
    cases hp : ck_kd O F q.1 with
    | none => rw [hp] at h4; cases h4
    | some p =>
      rw [hp] at h4
      simp only [Bool.and_eq_true, beq_iff_eq] at h4
      obtain ⟨h5, h6⟩ := ck_kd_s hF h hp
      exact ⟨h5, by rw [h6]; exact Prod.ext h4.1 h4.2⟩
  · have h4 := List.all_eq_true.mp h2 q hq
    cases hp : ck_fR O F q.1 q.2.1 with
    | none => rw [hp] at h4; cases h4
    | some p =>
      rw [hp] at h4
      simp only [beq_iff_eq] at h4
      rw [← h4]
      exact ck_fR_s hF h hp
  · have h4 := List.all_eq_true.mp h3 q hq
    rw [Bool.or_eq_true] at h4
    rcases h4 with h4 | h4
    · cases hp : ck_rd O F q.1 q.2.1 q.2.2.1 with
      | none => rw [hp] at h4; cases h4
      | some p =>
        rw [hp] at h4
        obtain ⟨h5, h6⟩ := ck_rd_s hF h hp
        exact ⟨h5, fun j h7 h8 => ⟨(h6 j h7 h8).1, ck_leI_s h4 (h6 j h7 h8).2⟩⟩
    · rw [Bool.and_eq_true, decide_eq_true_eq] at h4
      obtain ⟨h5, h6⟩ := ck_pcs_s h _ _ _ h4.2
      exact ⟨h5 h4.1, h6⟩
/-- a cell of a row or a field, seen by its type -/
theorem ck_tf_s {k : Nat} {j : Int} {t : Int × Int} (hF : gm_Fx O n K R M) (h : ck_gf σ F n K R M) (hf : gm_tyr O k j j = some t) : ck_gf σ (F.1, F.2.1, (k, j, j, (t.1, t.2, [])) :: F.2.2) n K R M := by
  refine ⟨h.1, h.2.1, fun q hq => ?_⟩
  rcases List.mem_cons.mp hq with rfl | hq
  · obtain ⟨h3, h4⟩ := gm_tyr_s hF hf
    exact ⟨h3, fun i h5 h6 => ⟨(h4 i h5 h6).1, (h4 i h5 h6).2.1, (h4 i h5 h6).2.2, fun _ h => nomatch h⟩⟩
  · exact h.2.2 q hq
theorem ck_rF_s {s : ck_S} {a a0 : ck_I} {x : Int} (h : ck_gf σ F n K R M) (hs : ck_gr L M s (gm_vi x)) (hx : gm_ir x) (ha : ck_gi σ a x) : ck_gf σ (ck_rF s a a0 F) n K R M := by
  unfold ck_rF
  split
  · rename_i q
    split
    · rename_i b hb
      split
      · obtain ⟨g1, g2⟩ := ck_fi_s h hb
        refine ⟨h.1, h.2.1, fun p hp => ?_⟩
        rcases List.mem_cons.mp hp with rfl | hp
        · refine ⟨g1, fun j h1 h2 => ?_⟩
          have h3 : q.2.1 = j := Int.le_antisymm h1 h2
          subst h3
          obtain ⟨g3, g4, g5, g6⟩ := g2 q.2.1 (Int.le_refl _) (Int.le_refl _)
          have h4 : gm_vi x = gm_vi (M q.1 q.2.1 + q.2.2) := hs
          have h5 : x = M q.1 q.2.1 + q.2.2 := by cases h4; rfl
          have := ha.1
          have := ha.2.1
          refine ⟨g3, ?_, ?_, g6⟩
          · dsimp only
            split
            · omega
            · exact g4
          · dsimp only
            split
            · omega
            · exact g5
        · exact h.2.2 p hp
      · exact h
    · exact h
  · rename_i q
    split
    · rename_i b c hb hc
      split
      · obtain ⟨g1, g2⟩ := ck_fi_s h hb
        obtain ⟨k1, k2⟩ := ck_fi_s h hc
        obtain ⟨g3, g4, g5, g6⟩ := g2 q.2.1 (Int.le_refl _) (Int.le_refl _)
        obtain ⟨k3, k4, k5, k6⟩ := k2 q.2.2.2.1 (Int.le_refl _) (Int.le_refl _)
        have h4 : gm_vi x = gm_vi (M q.1 q.2.1 - M q.2.2.1 q.2.2.2.1 + q.2.2.2.2) := hs
        have h5 : x = M q.1 q.2.1 - M q.2.2.1 q.2.2.2.1 + q.2.2.2.2 := by cases h4; rfl
        have := ha.1
        have := ha.2.1
        refine ⟨h.1, h.2.1, fun p hp => ?_⟩
        rcases List.mem_cons.mp hp with rfl | hp
        · refine ⟨g1, fun j h1 h2 => ?_⟩
          have h3 : q.2.1 = j := Int.le_antisymm h1 h2
          subst h3
          refine ⟨g3, ?_, ?_, g6⟩
          · dsimp only
            split
            · omega
            · exact g4
          · dsimp only
            split
            · omega
            · exact g5
        · rcases List.mem_cons.mp hp with rfl | hp
          · refine ⟨k1, fun j h1 h2 => ?_⟩
            have h3 : q.2.2.2.1 = j := Int.le_antisymm h1 h2
            subst h3
            refine ⟨k3, ?_, ?_, k6⟩
            · dsimp only
              split
              · omega
              · exact k4
            · dsimp only
              split
              · omega
              · exact k5
          · exact h.2.2 p hp
      · exact h
    · exact h
  · exact h
theorem ck_tg_s {nm : Nat} {lo hi x : Int} {b : ck_I} (hn : nm < 100) (h1 : lo ≤ σ nm) (h2 : σ nm ≤ hi) (h : ck_gi σ b x) : ck_gi σ (ck_tg nm lo hi b) x := by
  unfold ck_tg
  cases hq : b.2.2.find? fun q => q.1 == nm with
  | none => exact h
  | some q =>
    have h3 := List.find?_some hq
    rw [beq_iff_eq] at h3
    have h4 := (h.2.2 q (List.mem_of_find?_eq_some hq)).1 (by omega)
    rw [h3] at h4
    refine ⟨?_, ?_, h.2.2⟩
    · dsimp only
      split
      · omega
      · exact h.1
    · dsimp only
      split
      · omega
      · exact h.2.1
theorem ck_tgL_s {nm : Nat} {lo hi : Int} (hn : nm < 100) (h1 : lo ≤ σ nm) (h2 : σ nm ≤ hi) (h : ck_gl σ AL L) : ck_gl σ (ck_tgL nm lo hi AL) L := by
  unfold ck_tgL
  refine ⟨by rw [List.length_map]; exact h.1, fun j b hb => ?_⟩
  rw [List.getElem?_map] at hb
  cases ha : AL[j]? with
  | none => rw [ha] at hb; cases hb
  | some a =>
    rw [ha] at hb
    cases a with
    | none => cases hb
    | some a =>
      simp only [Option.map_some, Option.some.injEq] at hb
      subst hb
      obtain ⟨u, h3, h4⟩ := h.2 j a ha
      refine ⟨u, h3, ?_⟩
      rcases a with a | a | k | k
      · obtain ⟨x, h5, h6, h7⟩ := h4
        exact ⟨x, h5, h6, ck_tg_s hn h1 h2 h7⟩
      · exact h4
      · exact h4
      · exact h4
theorem ck_tgF_s {nm : Nat} {lo hi : Int} (hn : nm < 100) (h1 : lo ≤ σ nm) (h2 : σ nm ≤ hi) (h : ck_gf σ F n K R M) : ck_gf σ (ck_tgF nm lo hi F) n K R M := by
  refine ⟨h.1, h.2.1, fun q hq => ?_⟩
  obtain ⟨p, hp, rfl⟩ := List.mem_map.mp hq
  have h3 := h.2.2 p hp
  exact ⟨h3.1, fun j h4 h5 => ⟨(h3.2 j h4 h5).1, ck_tg_s hn h1 h2 (h3.2 j h4 h5).2⟩⟩
theorem ck_ptL_s {lo hi x : Int} (h1 : lo ≤ x) (h2 : x ≤ hi) : ∀ (l : List (Nat × Int)) (AL : ck_AL), ck_gt σ l x → ck_gl σ AL L → ck_gl σ (ck_ptL lo hi l AL) L := by
  intro l
  induction l with
  | nil => intro AL _ h; exact h
  | cons q l ih =>
    intro AL ht h
    refine ih _ (fun p hp => ht p (List.mem_cons_of_mem _ hp)) ?_
    split
    · rename_i e
      have h3 := (ht q List.mem_cons_self).1 (by omega)
      exact ck_tgL_s e (by omega) (by omega) h
    · exact h
theorem ck_ptF_s {lo hi x : Int} (h1 : lo ≤ x) (h2 : x ≤ hi) : ∀ (l : List (Nat × Int)) (F : ck_F), ck_gt σ l x → ck_gf σ F n K R M → ck_gf σ (ck_ptF lo hi l F) n K R M := by
  intro l
  induction l with
  | nil => intro F _ h; exact h
  | cons q l ih =>
    intro F ht h
    refine ih _ (fun p hp => ht p (List.mem_cons_of_mem _ hp)) ?_
    split
    · rename_i e
      have h3 := (ht q List.mem_cons_self).1 (by omega)
      exact ck_tgF_s e (by omega) (by omega) h
    · exact h
theorem ck_qL_s {a a0 : ck_I} {x : Int} (ha : a.1 ≤ x ∧ x ≤ a.2.1) (h0 : ck_gi σ a0 x) (h : ck_gl σ AL L) : ck_gl σ (ck_qL a a0 AL) L := by
  unfold ck_qL
  cases ck_eqb a a0 with
  | true => exact h
  | false => exact ck_ptL_s ha.1 ha.2 _ _ h0.2.2 h
theorem ck_qF_s {a a0 : ck_I} {x : Int} (ha : a.1 ≤ x ∧ x ≤ a.2.1) (h0 : ck_gi σ a0 x) (h : ck_gf σ F n K R M) : ck_gf σ (ck_qF a a0 F) n K R M := by
  unfold ck_qF
  cases ck_eqb a a0 with
  | true => exact h
  | false => exact ck_ptF_s ha.1 ha.2 _ _ h0.2.2 h
theorem ck_up_s {k : Nat} {lo hi e x : Int} {a : ck_I} (h : ck_gf σ F n K R M) (hk : k ≤ n) (h1 : lo ≤ e) (h2 : e ≤ hi) (hx : gm_ir x) (ha : ck_gi σ a x) : ck_gf σ (ck_up F k lo hi a) n K R (gm_uM M k e x) := by
  refine ⟨h.1, h.2.1, fun q hq => ?_⟩
  rw [ck_up_def] at hq
  rcases List.mem_append.mp hq with h9 | h9
  · split at h9
    · rename_i e9
      have h10 : q = (k, lo, lo, a) := by simpa using h9
      subst h10
      subst e9
      have : e = lo := Int.le_antisymm h2 h1
      subst this
      refine ⟨hk, fun j h3 h4 => ?_⟩
      have : j = e := Int.le_antisymm h4 h3
      subst this
      unfold gm_uM
      rw [if_pos ⟨rfl, rfl⟩]
      exact ⟨hx, ha⟩
    · cases h9
  · obtain ⟨p, hp, hp2⟩ := List.mem_flatMap.mp h9
    have h5 := h.2.2 p hp
    split at hp2
    · rename_i e1
      unfold ck_cut at hp2
      split at hp2
      · rename_i e2
        subst e2
        have h0 : e = lo := Int.le_antisymm h2 h1
        subst h0
        rcases List.mem_append.mp hp2 with h10 | h10
        · split at h10
          · have h11 : q = (p.1, p.2.1, e - 1, p.2.2.2) := by simpa using h10
            subst h11
            refine ⟨h5.1, fun j h6 h7 => ?_⟩
            dsimp only at h6 h7 ⊢
            unfold gm_uM
            rw [if_neg (by rintro ⟨-, rfl⟩; omega)]
            exact h5.2 j h6 (by omega)
          · cases h10
        · split at h10
          · have h11 : q = (p.1, e + 1, p.2.2.1, p.2.2.2) := by simpa using h10
            subst h11
            refine ⟨h5.1, fun j h6 h7 => ?_⟩
            dsimp only at h6 h7 ⊢
            unfold gm_uM
            rw [if_neg (by rintro ⟨-, rfl⟩; omega)]
            exact h5.2 j (by omega) h7
          · cases h10
      · have h11 : q = (p.1, p.2.1, p.2.2.1, ck_jn p.2.2.2 a) := by simpa using hp2
        subst h11
        refine ⟨h5.1, fun j h6 h7 => ?_⟩
        dsimp only at h6 h7 ⊢
        unfold gm_uM
        split
        · exact ⟨hx, ck_jn_r ha⟩
        · exact ⟨(h5.2 j h6 h7).1, ck_jn_l (h5.2 j h6 h7).2⟩
    · rename_i e1
      have h11 : q = p := by simpa using hp2
      subst h11
      refine ⟨h5.1, fun j h6 h7 => ?_⟩
      unfold gm_uM
      rw [if_neg (by rintro ⟨h8, rfl⟩; exact e1 ⟨h8, Int.le_trans h6 h2, Int.le_trans h1 h7⟩)]
      exact h5.2 j h6 h7
theorem ck_upT_s {k : Nat} {lo hi e x : Int} {a : ck_I} (h : ck_gf σ F n K R M) (hk : k ≤ n) (h1 : lo ≤ e) (h2 : e ≤ hi) (hx : gm_ir x) (ha : ck_gi σ a x) : ck_gf σ (ck_upT O F k lo hi a) n K R (gm_uM M k e x) := by
  have h3 := ck_up_s h hk h1 h2 hx ha
  unfold ck_upT
  split
  · exact ⟨h3.1, h3.2.1, fun q hq => h3.2.2 q (List.mem_of_mem_drop hq)⟩
  · exact h3
theorem ck_upR_s {k r : Nat} {j : Int} (h : ck_gf σ F n K R M) (hk : k ≤ n) : ck_gf σ (ck_upR F k j r) n K (gm_uR R k j r) M := by
  refine ⟨h.1, fun q hq => ?_, h.2.2⟩
  rcases List.mem_cons.mp hq with rfl | hq
  · exact ⟨hk, by show gm_uR R k j r k j = r; unfold gm_uR; rw [if_pos ⟨rfl, rfl⟩]⟩
  · obtain ⟨h1, h2⟩ := List.mem_filter.mp hq
    have h3 := h.2.1 q h1
    refine ⟨h3.1, ?_⟩
    unfold gm_uR
    rw [if_neg (by rintro ⟨rfl, rfl⟩; simp at h2)]
    exact h3.2
/-- what was not to be written was not written -/
theorem ck_fr_M {W : List (Nat × Int × Int) × List (Nat × Int)} {n0 k : Nat} {K0 : gm_K} {R0 : gm_R} {M0 : gm_M} {lo hi e x : Int} (h : ck_fr W n0 K0 R0 M0 n K R M) (hw : ck_okW W.1 n0 k lo hi = true) (h1 : lo ≤ e) (h2 : e ≤ hi) : ck_fr W n0 K0 R0 M0 n K R (gm_uM M k e x) := by
  refine ⟨h.1, h.2.1, fun a b ha hb => ?_, h.2.2.2⟩
  rw [← h.2.2.1 a b ha hb]
  unfold gm_uM
  rw [if_neg]
  rintro ⟨rfl, rfl⟩
  rw [ck_okW_def] at hw
  simp only [Bool.or_eq_true, decide_eq_true_eq, List.any_eq_true, Bool.and_eq_true, beq_iff_eq] at hw
  rcases hw with hw | ⟨w, hw1, hw2, hw3, hw4⟩
  · omega
  · exact hb w hw1 ⟨hw2, Int.le_trans hw3 h1, Int.le_trans h2 hw4⟩
theorem ck_fr_R {W : List (Nat × Int × Int) × List (Nat × Int)} {n0 k r : Nat} {K0 : gm_K} {R0 : gm_R} {M0 : gm_M} {j : Int} (h : ck_fr W n0 K0 R0 M0 n K R M) (hw : ck_okR W.2 n0 k j = true) : ck_fr W n0 K0 R0 M0 n K (gm_uR R k j r) M := by
  refine ⟨h.1, h.2.1, h.2.2.1, fun a b ha hb => ?_⟩
  rw [← h.2.2.2 a b ha hb]
  unfold gm_uR
  rw [if_neg]
  rintro ⟨rfl, rfl⟩
  rw [ck_okR_def] at hw
  simp only [Bool.or_eq_true, decide_eq_true_eq, List.any_eq_true, Bool.and_eq_true, beq_iff_eq] at hw
  rcases hw with hw | ⟨w, hw1, rfl, rfl⟩
  · omega
  · exact hb hw1
theorem ck_fr_n {W : List (Nat × Int × Int) × List (Nat × Int)} {n0 kd len : Nat} {K0 : gm_K} {R0 : gm_R} {M0 : gm_M} (h : ck_fr W n0 K0 R0 M0 n K R M) : ck_fr W n0 K0 R0 M0 (n + 1) (gm_nK K n kd len) (gm_nR R n) (gm_nM M n) := by
  have h0 := h.1
  refine ⟨by omega, fun a ha => ?_, fun a b ha hb => ?_, fun a b ha hb => ?_⟩
  · unfold gm_nK; rw [if_neg (by omega)]; exact h.2.1 a ha
  · unfold gm_nM; rw [if_neg (by omega)]; exact h.2.2.1 a b ha hb
  · unfold gm_nR; rw [if_neg (by omega)]; exact h.2.2.2 a b ha hb
theorem ck_fr_0 {W : List (Nat × Int × Int) × List (Nat × Int)} : ck_fr W n K R M n K R M := ⟨Nat.le_refl _, fun _ _ => rfl, fun _ _ _ _ => rfl, fun _ _ _ _ => rfl⟩
theorem ck_new_s {kd len : Nat} {l : List (Nat × Int × Int × ck_I)} (h : ck_gf σ F n K R M) (hl : ∀ q ∈ l, q.1 = n + 1 ∧ q.2.2.2 = ck_one 0) : ck_gf σ ((n + 1, kd, len) :: F.1, F.2.1, l ++ F.2.2) (n + 1) (gm_nK K n kd len) (gm_nR R n) (gm_nM M n) := by
  refine ⟨fun q hq => ?_, fun q hq => ?_, fun q hq => ?_⟩
  · rcases List.mem_cons.mp hq with rfl | hq
    · exact ⟨⟨by omega, by omega⟩, by show gm_nK K n kd len (n + 1) = _; unfold gm_nK; rw [if_pos rfl]⟩
    · have h1 := h.1 q hq
      refine ⟨⟨h1.1.1, by omega⟩, ?_⟩
      unfold gm_nK
      rw [if_neg (by omega)]
      exact h1.2
  · have h1 := h.2.1 q hq
    refine ⟨by omega, ?_⟩
    unfold gm_nR
    rw [if_neg (by omega)]
    exact h1.2
  · rcases List.mem_append.mp hq with hq | hq
    · obtain ⟨e1, e2⟩ := hl q hq
      rw [e1, e2]
      refine ⟨Nat.le_refl _, fun j h3 h4 => ?_⟩
      unfold gm_nM
      rw [if_pos rfl]
      exact ⟨⟨by decide, by decide⟩, ck_one_s 0⟩
    · have h1 := h.2.2 q hq
      refine ⟨by omega, fun j h3 h4 => ?_⟩
      unfold gm_nM
      rw [if_neg (by omega)]
      exact h1.2 j h3 h4
theorem ck_nl0 : ∀ q ∈ ([] : List (Nat × Int × Int × ck_I)), q.1 = n + 1 ∧ q.2.2.2 = ck_one 0 := fun _ h => nomatch h
theorem ck_nl1 {a b : Int} : ∀ q ∈ [((n + 1, a, b, ck_one 0) : Nat × Int × Int × ck_I)], q.1 = n + 1 ∧ q.2.2.2 = ck_one 0 := fun q h => by
  have : q = (n + 1, a, b, ck_one 0) := by simpa using h
  subst this
  exact ⟨rfl, rfl⟩
theorem ck_nlr {m : Nat} : ∀ q ∈ ((List.range m).map fun (j : Nat) => ((n + 1, (j : Int), (j : Int), ck_one 0) : Nat × Int × Int × ck_I)), q.1 = n + 1 ∧ q.2.2.2 = ck_one 0 := fun q h => by
  obtain ⟨j, -, rfl⟩ := List.mem_map.mp h
  exact ⟨rfl, rfl⟩
theorem ck_cw_s {w : Nat × Int × Int} {p q : Nat × Int × Int × ck_I} (h : q ∈ ck_cw w p) : q.1 = p.1 ∧ q.2.2.2 = p.2.2.2 ∧ ∀ j, q.2.1 ≤ j → j ≤ q.2.2.1 → (p.2.1 ≤ j ∧ j ≤ p.2.2.1) ∧ ¬ (w.1 = p.1 ∧ w.2.1 ≤ j ∧ j ≤ w.2.2) := by
  unfold ck_cw at h
  split at h
  · rename_i e
    rcases List.mem_append.mp h with h | h
    · split at h
      · have h1 : q = (p.1, p.2.1, w.2.1 - 1, p.2.2.2) := by simpa using h
        subst h1
        refine ⟨rfl, rfl, fun j h2 h3 => ?_⟩
        dsimp only at h2 h3
        exact ⟨⟨h2, by omega⟩, by omega⟩
      · cases h
    · split at h
      · have h1 : q = (p.1, w.2.2 + 1, p.2.2.1, p.2.2.2) := by simpa using h
        subst h1
        refine ⟨rfl, rfl, fun j h2 h3 => ?_⟩
        dsimp only at h2 h3
        exact ⟨⟨by omega, h3⟩, by omega⟩
      · cases h
  · rename_i e
    have h1 : q = p := by simpa using h
    subst h1
    refine ⟨rfl, rfl, fun j h2 h3 => ⟨⟨h2, h3⟩, ?_⟩⟩
    rintro ⟨h4, h5, h6⟩
    exact e ⟨h4.symm, by omega, by omega⟩
theorem ck_cws_s : ∀ {ws : List (Nat × Int × Int)} {l : List (Nat × Int × Int × ck_I)} {q : Nat × Int × Int × ck_I}, q ∈ ck_cws ws l → ∃ p ∈ l, q.1 = p.1 ∧ q.2.2.2 = p.2.2.2 ∧ ∀ j, q.2.1 ≤ j → j ≤ q.2.2.1 → (p.2.1 ≤ j ∧ j ≤ p.2.2.1) ∧ ∀ w ∈ ws, ¬ (w.1 = p.1 ∧ w.2.1 ≤ j ∧ j ≤ w.2.2) := by
  intro ws
  induction ws with
  | nil => intro l q h; exact ⟨q, h, rfl, rfl, fun j h1 h2 => ⟨⟨h1, h2⟩, fun w hw => nomatch hw⟩⟩
  | cons w ws ih =>
    intro l q h
    obtain ⟨p, hp, h1, h2, h3⟩ := ih h
    rw [fl_cw_eq] at hp
    obtain ⟨r, hr, hp2⟩ := List.mem_flatMap.mp hp
    obtain ⟨h4, h5, h6⟩ := ck_cw_s hp2
    refine ⟨r, hr, h1.trans h4, h2.trans h5, fun j h7 h8 => ?_⟩
    obtain ⟨h9, h10⟩ := h3 j h7 h8
    obtain ⟨h11, h12⟩ := h6 j h9.1 h9.2
    refine ⟨h11, fun v hv => ?_⟩
    rcases List.mem_cons.mp hv with rfl | hv
    · exact h12
    · rw [← h4]; exact h10 v hv
/-- behind a call -/
theorem ck_mix_s {W : List (Nat × Int × Int) × List (Nat × Int)} {G : ck_F} {n' : Nat} {K' : gm_K} {R' : gm_R} {M' : gm_M} (h : ck_gf σ F n K R M) (hg : ck_gf σ G n' K' R' M') (hf : ck_fr W n K R M n' K' R' M') : ck_gf σ (ck_mix n F W G) n' K' R' M' := by
  refine ⟨fun q hq => ?_, fun q hq => ?_, fun q hq => ?_⟩
  · rcases List.mem_append.mp hq with hq | hq
    · exact hg.1 q hq
    · have h1 := h.1 q hq
      exact ⟨⟨h1.1.1, Nat.le_trans h1.1.2 hf.1⟩, by rw [hf.2.1 q.1 h1.1.2]; exact h1.2⟩
  · rcases List.mem_append.mp hq with hq | hq
    · exact hg.2.1 q hq
    · obtain ⟨h1, h2⟩ := List.mem_filter.mp hq
      have h3 := h.2.1 q h1
      simp only [Bool.and_eq_true, decide_eq_true_eq, Bool.not_eq_true', List.any_eq_false, beq_iff_eq] at h2
      refine ⟨Nat.le_trans h3.1 hf.1, ?_⟩
      rw [hf.2.2.2 q.1 q.2.1 h3.1 (fun h9 => h2.2 _ h9 ⟨rfl, rfl⟩)]
      exact h3.2
  · rcases List.mem_append.mp hq with hq | hq
    · exact hg.2.2 q hq
    · obtain ⟨p, hp, h1, h2, h3⟩ := ck_cws_s hq
      have h4 := h.2.2 p hp
      rw [h1, h2]
      refine ⟨Nat.le_trans h4.1 hf.1, fun j h5 h6 => ?_⟩
      obtain ⟨h7, h8⟩ := h3 j h5 h6
      rw [hf.2.2.1 p.1 j h4.1 h8]
      exact h4.2 j h7.1 h7.2
theorem ck_fr_tr {V W : List (Nat × Int × Int) × List (Nat × Int)} {n0 n' : Nat} {K0 K' : gm_K} {R0 R' : gm_R} {M0 M' : gm_M} (h : ck_fr W n0 K0 R0 M0 n K R M) (h2 : ck_fr V n K R M n' K' R' M') (hw : V.1.all (fun w => ck_okW W.1 n0 w.1 w.2.1 w.2.2) = true) (hr : V.2.all (fun w => ck_okR W.2 n0 w.1 w.2) = true) : ck_fr W n0 K0 R0 M0 n' K' R' M' := by
  refine ⟨Nat.le_trans h.1 h2.1, fun a ha => ?_, fun a b ha hb => ?_, fun a b ha hb => ?_⟩
  · rw [h2.2.1 a (Nat.le_trans ha h.1)]; exact h.2.1 a ha
  · rw [h2.2.2.1 a b (Nat.le_trans ha h.1)]
    · exact h.2.2.1 a b ha hb
    · intro w hw1 h9
      have h3 := List.all_eq_true.mp hw w hw1
      rw [ck_okW_def] at h3
      simp only [Bool.or_eq_true, decide_eq_true_eq, List.any_eq_true, Bool.and_eq_true, beq_iff_eq] at h3
      obtain ⟨rfl, h10, h11⟩ := h9
      rcases h3 with h3 | ⟨u, hu1, hu2, hu3, hu4⟩
      · omega
      · exact hb u hu1 ⟨hu2, Int.le_trans hu3 h10, Int.le_trans h11 hu4⟩
  · rw [h2.2.2.2 a b (Nat.le_trans ha h.1)]
    · exact h.2.2.2 a b ha hb
    · intro h9
      have h3 := List.all_eq_true.mp hr _ h9
      rw [ck_okR_def] at h3
      simp only [Bool.or_eq_true, decide_eq_true_eq, List.any_eq_true, Bool.and_eq_true, beq_iff_eq] at h3
      rcases h3 with h3 | ⟨u, hu1, rfl, rfl⟩
      · omega
      · exact hb hu1
theorem ck_ltg_s {w : ck_I} {x y z : Int} {t : List (Nat × Int)} (hw : ck_gi σ w y) (h : ck_gt σ t x) : ck_gt σ (ck_ltg w z t) (x + (y + z)) := by
  unfold ck_ltg
  cases hg : ck_sg w with
  | true =>
    show ck_gt σ (ck_mv t (w.1 + z)) _
    rw [ck_sg_s hw hg]
    exact ck_mv_s h
  | false =>
    intro q hq
    have hq : q ∈ t.map fun q => (if q.1 < 1000000 then q.1 + 1000000 else q.1, q.2 + (w.1 + z)) := hq
    obtain ⟨p, hp, rfl⟩ := List.mem_map.mp hq
    have h1 := h p hp
    have h2 := hw.1
    unfold ck_g1 at h1 ⊢
    dsimp only
    split
    · rename_i e
      have h3 := h1.1 e
      refine ⟨fun h4 => by omega, fun _ => ?_⟩
      rw [Nat.add_sub_cancel]
      omega
    · rename_i e
      have h3 := h1.2 (by omega)
      exact ⟨fun h4 => absurd h4 e, fun _ => by omega⟩
theorem ck_lks_s {s : ck_S} {x : Int} (hF : gm_Fx O n K R M) (hs : ck_gr L M s (gm_vi x)) : ck_gr L M (ck_lks O s) (gm_vi x) := by
  unfold ck_lks
  cases hg : O.2.2.gh with
  | none => exact hs
  | some g =>
    dsimp only
    split
    · rename_i q
      cases hc : (q.1 == g.1 && (q.2.2.1 == g.1 && (decide (q.2.1 = g.2.1) && decide (q.2.2.2.1 = g.2.2)))) with
      | false => exact hs
      | true =>
        simp only [Bool.and_eq_true, beq_iff_eq, decide_eq_true_eq] at hc
        obtain ⟨h1, h2, h3, h4⟩ := hc
        have h5 : gm_vi x = gm_vi (M q.1 q.2.1 - M q.2.2.1 q.2.2.2.1 + q.2.2.2.2) := hs
        have h6 := ((O.2.2.hG g hg).1 K M hF.2.2.2.2).1
        rw [h1, h2, h3, h4, ← h6] at h5
        exact h5
    · exact hs
theorem ck_lkp_s {s t : ck_S} {x y : Int} {w : ck_I} (hF : gm_Fx O n K R M) (hf : ck_gf σ F n K R M) (hs : ck_gr L M s (gm_vi x)) (ht : ck_gr L M t (gm_vi y)) (h : ck_lkp O F s t = some w) : gm_ir (x - y) ∧ ck_gi σ w (x - y) ∧ ck_gr L M (some (.inr (.inl (0, 4, 0)))) (gm_vi (x - y)) := by
  unfold ck_lkp at h
  cases hg : O.2.2.gh with
  | none => rw [hg] at h; cases h
  | some g =>
    rw [hg] at h
    dsimp only at h
    split at h
    · rename_i p q
      cases hc : ((p.1 == g.1 && (q.1 == g.1 && (decide (p.2.1 = g.2.1) && decide (q.2.1 = g.2.2)))) && (decide (p.2.2 = 0) && decide (q.2.2 = 0))) with
      | false => rw [hc] at h; cases h
      | true =>
        rw [hc] at h
        simp only [Bool.and_eq_true, beq_iff_eq, decide_eq_true_eq] at hc
        obtain ⟨⟨h1, h2, h3, h4⟩, h5, h6⟩ := hc
        have h7 : gm_vi x = gm_vi (M p.1 p.2.1 + p.2.2) := hs
        have h8 : gm_vi y = gm_vi (M q.1 q.2.1 + q.2.2) := ht
        have h9 : x = M p.1 p.2.1 + p.2.2 := by cases h7; rfl
        have h10 : y = M q.1 q.2.1 + q.2.2 := by cases h8; rfl
        have h11 := ((O.2.2.hG g hg).1 K M hF.2.2.2.2).1
        rw [h1, h3, h5] at h9
        rw [h2, h4, h6] at h10
        have h12 : x - y = M 0 4 := by omega
        have h13 := (ck_fi_s hf (show ck_fi F 0 4 4 = some w from h)).2 4 (Int.le_refl _) (Int.le_refl _)
        rw [h12]
        refine ⟨h13.1, h13.2, ?_⟩
        show gm_vi (M 0 4) = gm_vi (M 0 4 + 0)
        rw [Int.add_zero]
    · cases h
theorem ck_cm0 {c : ClassFile.Cond} {x y : Int} : gm_cm c x y ↔ gm_cm c (x - y) 0 := by
  cases c <;> simp only [gm_cm] <;> omega
theorem ck_mn_s {x y z : Int} (h1 : z ≤ x) (h2 : z ≤ y) : z ≤ ck_mn x y := by unfold ck_mn; split <;> omega
theorem ck_mx_s {x y z : Int} (h1 : x ≤ z) (h2 : y ≤ z) : ck_mx x y ≤ z := by unfold ck_mx; split <;> omega
theorem ck_gp_s {r : Nat} {j x : Int} {s : ck_S} {a : ck_I} {p : ck_I × ck_I × ck_I} (hF : gm_Fx O n K R M) (hf : ck_gf σ F n K R M) (ha : ck_gi σ a x) (hs : ck_gr L M s (gm_vi x)) (h : ck_gp O F r j s a = some p) : ∃ g, O.2.2.gh = some g ∧ r = g.1 ∧ (j = g.2.1 ∨ j = g.2.2) ∧ ck_gi σ p.1 (gm_uM M r j x g.1 g.2.1 - gm_uM M r j x g.1 g.2.2) ∧ ck_gi σ p.2.1 (M 0 3 + (gm_uM M r j x g.1 g.2.2 - M g.1 g.2.2)) ∧ ck_gi σ p.2.2 (M 0 3 + (gm_uM M r j x g.1 g.2.2 - M g.1 g.2.2) + (gm_uM M r j x g.1 g.2.1 - gm_uM M r j x g.1 g.2.2)) := by
  unfold ck_gp at h
  cases hg : O.2.2.gh with
  | none => rw [hg] at h; cases h
  | some g =>
    rw [hg] at h
    dsimp only at h
    split at h
    · rename_i q
      cases hc : (r == g.1 && q.1 == g.1) with
      | false => rw [hc] at h; cases h
      | true =>
        rw [hc] at h
        simp only [Bool.and_eq_true, beq_iff_eq] at hc
        obtain ⟨h1, h2⟩ := hc
        subst h1
        have h3 : gm_vi x = gm_vi (M q.1 q.2.1 + q.2.2) := hs
        have h4 : x = M q.1 q.2.1 + q.2.2 := by cases h3; rfl
        rw [h2] at h4
        obtain ⟨h5, ⟨h6, h7⟩, -⟩ := O.2.2.hG g hg
        obtain ⟨h8, h81, h82⟩ := h5 K M hF.2.2.2.2
        have ha2 := ha.2.1
        cases hw : ck_fi F 0 4 4 with
        | none => rw [hw] at h; cases h
        | some w =>
          cases he : ck_fi F 0 3 3 with
          | none => rw [hw, he] at h; cases h
          | some e =>
            cases hf5 : ck_fi F 0 5 5 with
            | none => rw [hw, he, hf5] at h; cases h
            | some f =>
              cases ht : gm_tyr O g.1 g.2.2 g.2.2 with
              | none => rw [hw, he, hf5, ht] at h; cases h
              | some t =>
                rw [hw, he, hf5, ht] at h
                have h9 := ((ck_fi_s hf hw).2 4 (Int.le_refl _) (Int.le_refl _)).2
                have h10 := ((ck_fi_s hf he).2 3 (Int.le_refl _) (Int.le_refl _)).2
                have h11 := ((ck_fi_s hf hf5).2 5 (Int.le_refl _) (Int.le_refl _)).2
                have h12 := ((gm_tyr_s hF ht).2 g.2.2 (Int.le_refl _) (Int.le_refl _)).2.1
                have h : (if j = g.2.1 then (if q.2.1 = g.2.1 then some ((w.1 + q.2.2, ck_mn (w.2.1 + q.2.2) (a.2.1 - t.1), ck_mv w.2.2 q.2.2), e, (f.1 + q.2.2, ck_mn (f.2.1 + q.2.2) a.2.1, ck_mv f.2.2 q.2.2)) else if q.2.1 = g.2.2 then some (ck_one q.2.2, e, (e.1 + q.2.2, ck_mn (e.2.1 + q.2.2) a.2.1, ck_mv e.2.2 q.2.2)) else none) else if j = g.2.2 then (if q.2.1 = g.2.1 then some (ck_one (- q.2.2), (f.1 + q.2.2, ck_mn (f.2.1 + q.2.2) a.2.1, ck_mv f.2.2 q.2.2), f) else none) else none) = some p := h
                have u1 : ∀ i, gm_uM M g.1 j x g.1 i = if i = j then x else M g.1 i := by
                  intro i
                  unfold gm_uM
                  by_cases e9 : i = j
                  · rw [if_pos ⟨rfl, e9⟩, if_pos e9]
                  · rw [if_neg (fun e8 => e9 e8.2), if_neg e9]
                have k9 := h9.1
                have k92 := h9.2.1
                have k10 := h10.1
                have k102 := h10.2.1
                have k11 := h11.1
                have k112 := h11.2.1
                refine ⟨g, rfl, rfl, ?_⟩
                rw [u1, u1]
                by_cases e1 : j = g.2.1
                · rw [if_pos e1] at h
                  rw [if_pos e1.symm, if_neg (fun e9 => h7 (e1.symm.trans e9.symm))]
                  by_cases e2 : q.2.1 = g.2.1
                  · rw [if_pos e2] at h
                    rw [e2] at h4
                    cases h
                    have e3 : x - M g.1 g.2.2 = M 0 4 + q.2.2 := by omega
                    have e4 : M 0 3 + (M g.1 g.2.2 - M g.1 g.2.2) = M 0 3 := by omega
                    have e5 : M 0 3 + (M 0 4 + q.2.2) = M 0 5 + q.2.2 := by omega
                    have e6 : M 0 4 + q.2.2 ≤ a.2.1 - t.1 := by omega
                    have e7 : M 0 5 + q.2.2 ≤ a.2.1 := by omega
                    rw [e3, e4, e5]
                    exact ⟨Or.inl e1, ⟨Int.add_le_add_right h9.1 _, ck_mn_s (Int.add_le_add_right h9.2.1 _) e6, ck_mv_s h9.2.2⟩, h10, ⟨Int.add_le_add_right h11.1 _, ck_mn_s (Int.add_le_add_right h11.2.1 _) e7, ck_mv_s h11.2.2⟩⟩
                  · rw [if_neg e2] at h
                    by_cases e2 : q.2.1 = g.2.2
                    · rw [if_pos e2] at h
                      rw [e2] at h4
                      cases h
                      have e3 : x - M g.1 g.2.2 = q.2.2 := by omega
                      have e4 : M 0 3 + (M g.1 g.2.2 - M g.1 g.2.2) = M 0 3 := by omega
                      have e7 : M 0 3 + q.2.2 ≤ a.2.1 := by omega
                      rw [e3, e4]
                      exact ⟨Or.inl e1, ck_one_s _, h10, ⟨Int.add_le_add_right h10.1 _, ck_mn_s (Int.add_le_add_right h10.2.1 _) e7, ck_mv_s h10.2.2⟩⟩
                    · rw [if_neg e2] at h
                      cases h
                · rw [if_neg e1] at h
                  by_cases e0 : j = g.2.2
                  · rw [if_pos e0] at h
                    rw [if_neg (fun e9 => e1 e9.symm), if_pos e0.symm]
                    by_cases e2 : q.2.1 = g.2.1
                    · rw [if_pos e2] at h
                      rw [e2] at h4
                      cases h
                      have e3 : M g.1 g.2.1 - x = - q.2.2 := by omega
                      have e4 : M 0 3 + (x - M g.1 g.2.2) = M 0 5 + q.2.2 := by omega
                      have e5 : M 0 5 + q.2.2 + - q.2.2 = M 0 5 := by omega
                      have e7 : M 0 5 + q.2.2 ≤ a.2.1 := by omega
                      rw [e3, e4, e5]
                      exact ⟨Or.inr e0, ck_one_s _, ⟨Int.add_le_add_right h11.1 _, ck_mn_s (Int.add_le_add_right h11.2.1 _) e7, ck_mv_s h11.2.2⟩, h11⟩
                    · rw [if_neg e2] at h
                      cases h
                  · rw [if_neg e0] at h
                    cases h
    · cases h
theorem ck_gF_s {r : Nat} {j x : Int} {a : ck_I} {p : ck_I × ck_I × ck_I} {s : ck_S} {W : List (Nat × Int × Int) × List (Nat × Int)} {n0 : Nat} {K0 : gm_K} {R0 : gm_R} {M0 : gm_M} (hF : gm_Fx O n K R M) (hf : ck_gf σ F n K R M) (hfr : ck_fr W n0 K0 R0 M0 n K R M) (hx : gm_ir x) (ha : ck_gi σ a x) (hs : ck_gr L M s (gm_vi x)) (h : ck_gp O F r j s a = some p) (hr : r ≤ n)
    (h1 : (gm_tyv O r j j a.1 a.2.1 = true ∧ (O.2.2.ty 0).isEmpty = true) ∧ (ck_okW W.1 n0 r j j = true ∧ ck_okW W.1 n0 0 4 4 = true ∧ ck_okW W.1 n0 0 3 3 = true ∧ ck_okW W.1 n0 0 5 5 = true) ∧ ck_in p.1 = true ∧ ck_in p.2.1 = true ∧ ck_in p.2.2 = true) :
    ∃ M' : gm_M, (∀ c i, 1 ≤ c → M' c i = gm_uM M r j x c i) ∧ gm_Fx O n K R M' ∧ ck_gf σ (ck_gF F r j a p) n K R M' ∧ ck_fr W n0 K0 R0 M0 n K R M' := by
  obtain ⟨⟨t1, t2⟩, ⟨w1, w2, w3, w4⟩, i1, i2, i3⟩ := h1
  obtain ⟨g, hg, rfl, hj, hw, he, hv⟩ := ck_gp_s hF hf ha hs h
  obtain ⟨-, ⟨h6, h7⟩, h8⟩ := O.2.2.hG g hg
  have hz : ∀ c i, 1 ≤ c → gm_uM (gm_uM (gm_uM (gm_uM M g.1 j x) 0 4 (gm_uM M g.1 j x g.1 g.2.1 - gm_uM M g.1 j x g.1 g.2.2)) 0 3 (M 0 3 + (gm_uM M g.1 j x g.1 g.2.2 - M g.1 g.2.2))) 0 5 (M 0 3 + (gm_uM M g.1 j x g.1 g.2.2 - M g.1 g.2.2) + (gm_uM M g.1 j x g.1 g.2.1 - gm_uM M g.1 j x g.1 g.2.2)) c i = gm_uM M g.1 j x c i := by
    intro c i hc
    generalize gm_uM M g.1 j x = M1
    unfold gm_uM
    rw [if_neg (by omega), if_neg (by omega), if_neg (by omega)]
  refine ⟨_, hz, ?_, ?_, ?_⟩
  · refine gm_Fx_G hF t1 t2 ha.1 ha.2.1 hz (h8 K M _ hF.2.2.2.2 (fun c i e1 e2 => ?_) ?_ ?_ ?_)
    · unfold gm_uM
      rw [if_neg (fun e3 => e2 ⟨e3.1, Or.inr (Or.inr e3.2)⟩), if_neg (fun e3 => e2 ⟨e3.1, Or.inl e3.2⟩), if_neg (fun e3 => e2 ⟨e3.1, Or.inr (Or.inl e3.2)⟩), if_neg (fun e3 => e1 ⟨e3.1, by rcases hj with hj | hj <;> rw [e3.2, hj] <;> simp⟩)]
    · rw [hz _ _ h6, hz _ _ h6]
      generalize gm_uM M g.1 j x = M1
      unfold gm_uM
      rw [if_neg (by omega), if_neg (by omega), if_pos ⟨rfl, rfl⟩]
    · generalize gm_uM M g.1 j x = M1
      unfold gm_uM
      rw [if_pos ⟨rfl, rfl⟩, if_neg (by omega), if_pos ⟨rfl, rfl⟩, if_neg (by omega), if_neg (by omega), if_pos ⟨rfl, rfl⟩]
    · rw [hz _ _ h6]
      generalize gm_uM M g.1 j x = M1
      unfold gm_uM
      rw [if_neg (by omega), if_pos ⟨rfl, rfl⟩]
      omega
  · exact ck_up_s (ck_up_s (ck_up_s (ck_up_s hf hr (Int.le_refl _) (Int.le_refl _) hx ha) (Nat.zero_le _) (Int.le_refl _) (Int.le_refl _) (ck_in_s hw i1) hw) (Nat.zero_le _) (Int.le_refl _) (Int.le_refl _) (ck_in_s he i2) he) (Nat.zero_le _) (Int.le_refl _) (Int.le_refl _) (ck_in_s hv i3) hv
  · exact ck_fr_M (ck_fr_M (ck_fr_M (ck_fr_M hfr w1 (Int.le_refl _) (Int.le_refl _)) w2 (Int.le_refl _) (Int.le_refl _)) w3 (Int.le_refl _) (Int.le_refl _)) w4 (Int.le_refl _) (Int.le_refl _)
theorem ck_rE_s (hF : gm_Fx O n K R M) (hf : ck_gf σ F n K R M) : ck_gf σ (ck_rE O F) n K R M := by
  unfold ck_rE
  cases hg : O.2.2.gh with
  | none => exact hf
  | some g =>
    dsimp only
    split
    · rename_i e w f pp b he hw h5 hp hb
      split
      case isFalse => exact hf
      obtain ⟨h1, -, -⟩ := O.2.2.hG g hg
      obtain ⟨h22, h2, -⟩ := h1 K M hF.2.2.2.2
      have hp9 := ((ck_rd_s hF hf hp).2 g.2.1 (Int.le_refl _) (Int.le_refl _)).2
      obtain ⟨hb8, hb9⟩ := (ck_rd_s hF hf hb).2 g.2.2 (Int.le_refl _) (Int.le_refl _)
      have hp1 := hp9.1
      have hp2 := hp9.2.1
      have h9 := ((ck_fi_s hf hw).2 4 (Int.le_refl _) (Int.le_refl _)).2
      have h10 := ((ck_fi_s hf he).2 3 (Int.le_refl _) (Int.le_refl _)).2
      obtain ⟨h11, h12⟩ := (ck_fi_s hf h5).2 5 (Int.le_refl _) (Int.le_refl _)
      have h13 := h9.1
      have h15 := h9.2.1
      have h14 : M 0 5 = M 0 3 + (M 0 4 + 0) := by omega
      refine ⟨hf.1, hf.2.1, fun q hq => ?_⟩
      rcases List.mem_cons.mp hq with rfl | hq
      · refine ⟨Nat.zero_le _, fun j j1 j2 => ?_⟩
        have j1 : (5 : Int) ≤ j := j1
        have j2 : j ≤ (5 : Int) := j2
        have j3 : j = 5 := by omega
        subst j3
        refine ⟨h11, ck_mx_s h12.1 ?_, ck_mn_s h12.2.1 ?_, fun q hq => ?_⟩
        · have := h10.1
          show e.1 + w.1 ≤ M 0 5
          omega
        · have := h10.2.1
          show M 0 5 ≤ e.2.1 + w.2.1
          omega
        · rcases List.mem_append.mp hq with hq | hq
          · exact h12.2.2 q hq
          · show ck_g1 σ q (M 0 5)
            rw [h14]
            exact ck_ltg_s h9 h10.2.2 q (List.mem_filter.mp hq).1
      rcases List.mem_cons.mp hq with rfl | hq
      · refine ⟨(ck_rd_s hF hf hb).1, fun j j1 j2 => ?_⟩
        have j1 : g.2.2 ≤ j := j1
        have j2 : j ≤ g.2.2 := j2
        have j3 : j = g.2.2 := by omega
        subst j3
        refine ⟨hb8, ck_mx_s hb9.1 ?_, ck_mn_s hb9.2.1 ?_, hb9.2.2⟩
        · show pp.1 - w.2.1 ≤ M g.1 g.2.2
          omega
        · show M g.1 g.2.2 ≤ pp.2.1 - w.1
          omega
      · exact hf.2.2 q hq
    · exact hf
end CF
end
/-! 23.cj -/
section
/-! THE CHECKER: every instruction. -/
def ck_ho (σ : Nat → Int) : (Nat ⊕ Option ck_A) → gm_O → Prop
  | .inl x, .inr y => x = y
  | .inr none, .inl none => True
  | .inr (some a), .inl (some v) => ck_ga σ a v
  | _, _ => False
/-- how a method ends that the checker has seen -/
abbrev ck_Q (O : gm_Or) (σ : Nat → Int) (W : List (Nat × Int × Int) × List (Nat × Int)) (n0 : Nat) (K0 : gm_K) (R0 : gm_R) (M0 : gm_M) (outs : List ck_Oc) : gm_Q := fun o n K R M => gm_Fx O n K R M ∧ ck_fr W n0 K0 R0 M0 n K R M ∧ ∃ oc ∈ outs, ck_ho σ oc.1 o ∧ n = oc.2.1 ∧ ck_gf σ oc.2.2 n K R M
def ck_gas (σ : Nat → Int) : List ck_A → List gm_V → Prop
  | [], vs => vs = []
  | a :: as, vs => ∃ v ws, vs = v :: ws ∧ ck_ga σ a v ∧ ck_gas σ as ws
/-- what is said of a method -/
def ck_Ok (O : gm_Or) (X : Int → Int) (LX mj : Nat) (S : ck_Sum) : Prop := ∀ (d : Nat) (σ : Nat → Int) (vs : List gm_V) (n : Nat) (K : gm_K) (R : gm_R) (M : gm_M), S.1.1 ≤ d → n = S.2.1 → ck_gas σ S.2.2.1 vs → (∀ q ∈ O.2.2.nm, σ q.1 = M q.2.1 q.2.2) → gm_Fx O n K R M → ck_gf σ S.2.2.2.1 n K R M → gm_Wp X LX d S.1.2.1 S.1.2.2 mj 0 (gm_ent mj vs) [] n K R M (ck_Q O σ S.2.2.2.2.1 n K R M S.2.2.2.2.2)
def ck_OkE (O : gm_Or) (X : Int → Int) (LX : Nat) (E : List (Nat × List ck_Sum)) : Prop := ∀ mj l, E.lookup mj = some l → ∀ S ∈ l, ck_Ok O X LX mj S
def ck_OkX (σ : Nat → Int) (X : Int → Int) (XF : List (Int × Int × ck_I)) : Prop := ∀ q ∈ XF, ∀ j, q.1 ≤ j → j ≤ q.2.1 → gm_ir (X j) ∧ ck_gi σ q.2.2 (X j)
/-- a state that the checker knows -/
def ck_St (O : gm_Or) (σ : Nat → Int) (W : List (Nat × Int × Int) × List (Nat × Int)) (n0 : Nat) (K0 : gm_K) (R0 : gm_R) (M0 : gm_M) (AL : ck_AL) (AS : ck_AS) (F : ck_F) (L : gm_L) (st : List gm_V) (n : Nat) (K : gm_K) (R : gm_R) (M : gm_M) : Prop := gm_Fx O n K R M ∧ ck_gl σ AL L ∧ ck_gs σ L M AS st ∧ ck_gf σ F n K R M ∧ ck_fr W n0 K0 R0 M0 n K R M
section CJ
variable {O : gm_Or} {X : Int → Int} {LX : Nat} {XF : List (Int × Int × ck_I)} {E : List (Nat × List ck_Sum)} {mi d n0 : Nat} {W : List (Nat × Int × Int) × List (Nat × Int)} {outs : List ck_Oc} {bc bs pc : Nat} {L : gm_L} {st : List gm_V} {n : Nat} {K : gm_K} {R : gm_R} {M : gm_M} {AL : ck_AL} {AS : ck_AS} {F : ck_F} {σ σ0 : Nat → Int} {K0 : gm_K} {R0 : gm_R} {M0 : gm_M} {Q : gm_Q}
theorem ck_w6 (x : Int) : Int64.ofInt (gm_w6 x) = Int64.ofInt x := by
  apply Int64.toInt_inj.mp
  rw [gm_w6_toInt, gm_w6_toInt]
  unfold gm_w6
  omega
/-- an int may be taken round -/
theorem ck_nv {x : Int} (h : gm_Wp X LX d bc bs mi pc L (gm_vi (gm_w x) :: st) n K R M Q) : gm_Wp X LX d bc bs mi pc L (gm_vi x :: st) n K R M Q := by
  intro p l e Rm s m args below meth c D ti adK adV A α0 n0 mc ms h1 h2 h3 h4 h5 h6 h7 α H locs cells slots ls sv h8 h9 h10 h11 h12 h13
  refine h p l e Rm s m args below meth c D ti adK adV A α0 n0 mc ms h1 h2 h3 h4 h5 h6 h7 α H locs cells slots ls sv h8 h9 h10 h11 h12 ?_
  obtain ⟨w, ws, rfl, h14, h15⟩ := h13
  refine ⟨w, ws, rfl, ?_, h15⟩
  show w = .int (Int32.ofInt (gm_w x))
  rw [gm_w_of]
  exact h14
theorem ck_nvL {j : Nat} {x : Int} (h : gm_Wp X LX d bc bs mi pc (gm_lst L j (gm_vi (gm_w x))) st n K R M Q) : gm_Wp X LX d bc bs mi pc (gm_lst L j (gm_vi x)) st n K R M Q := by
  intro p l e Rm s m args below meth c D ti adK adV A α0 n0 mc ms h1 h2 h3 h4 h5 h6 h7 α H locs cells slots ls sv h8 h9 h10 h11 h12 h13
  refine h p l e Rm s m args below meth c D ti adK adV A α0 n0 mc ms h1 h2 h3 h4 h5 h6 h7 α H locs cells slots ls sv h8 h9 h10 h11 ?_ h13
  obtain ⟨g1, l1, g2, g3⟩ := h12
  have e0 : ∀ y : Int, gm_lst L j (gm_vi y) = (gm_lc L j).set j (some (gm_vi y)) := fun _ => rfl
  rw [e0] at g1
  refine ⟨by rw [e0]; simpa using g1, l1, g2, fun i v hi => ?_⟩
  rw [e0, List.getElem?_set] at hi
  by_cases e : j = i
  · rw [if_pos e] at hi
    split at hi
    · rename_i e2
      cases hi
      obtain ⟨w, k1, k2⟩ := g3 i (gm_vi x) (by rw [e0, List.getElem?_set, if_pos e, if_pos e2])
      refine ⟨w, ?_, k2⟩
      show w = .int (Int32.ofInt (gm_w x))
      rw [gm_w_of]
      exact k1
    · cases hi
  · rw [if_neg e] at hi
    exact g3 i v (by rw [e0, List.getElem?_set, if_neg e]; exact hi)
theorem ck_nv6 {x : Int} (h : gm_Wp X LX d bc bs mi pc L (gm_vl (gm_w6 x) :: st) n K R M Q) : gm_Wp X LX d bc bs mi pc L (gm_vl x :: st) n K R M Q := by
  intro p l e Rm s m args below meth c D ti adK adV A α0 n0 mc ms h1 h2 h3 h4 h5 h6 h7 α H locs cells slots ls sv h8 h9 h10 h11 h12 h13
  refine h p l e Rm s m args below meth c D ti adK adV A α0 n0 mc ms h1 h2 h3 h4 h5 h6 h7 α H locs cells slots ls sv h8 h9 h10 h11 h12 ?_
  obtain ⟨w, ws, rfl, h14, h15⟩ := h13
  refine ⟨w, ws, rfl, ?_, h15⟩
  show w = .long (Int64.ofInt (gm_w6 x))
  rw [ck_w6]
  exact h14
theorem ck_r6_w (x : Int) : ck_r6 (gm_w6 x) := by unfold ck_r6 gm_w6; omega
theorem ck_tp6_s {x : Int} (h : ck_r6 x) : ck_gi σ ck_tp6 x := ⟨h.1, Int.le_of_lt_add_one h.2, ck_gt_none⟩
theorem ck_r6_i {x : Int} (h : gm_ir x) : ck_r6 x := by unfold gm_ir at h; unfold ck_r6; omega
theorem ck_pi {x : Int} {a : ck_I} {s : ck_S} (hx : gm_ir x) (ha : ck_gi σ a x) (hs : ck_gr L M s (gm_vi x)) (h : ck_gs σ L M AS st) : ck_gs σ L M ((.inl a, s) :: AS) (gm_vi x :: st) := ⟨_, _, rfl, ⟨⟨x, rfl, hx, ha⟩, hs⟩, h⟩
theorem ck_pl {x : Int} {a : ck_I} (hx : ck_r6 x) (ha : ck_gi σ a x) (h : ck_gs σ L M AS st) : ck_gs σ L M ((.inr (.inl a), none) :: AS) (gm_vl x :: st) := ⟨_, _, rfl, ⟨⟨x, rfl, hx, ha⟩, trivial⟩, h⟩
theorem ck_pr {k : Nat} (h : ck_gs σ L M AS st) : ck_gs σ L M ((.inr (.inr (.inl k)), none) :: AS) (gm_vr k :: st) := ⟨_, _, rfl, ⟨rfl, trivial⟩, h⟩
theorem ck_po {k : Nat} (h : ck_gs σ L M AS st) : ck_gs σ L M ((.inr (.inr (.inr k)), none) :: AS) (gm_vo k :: st) := ⟨_, _, rfl, ⟨rfl, trivial⟩, h⟩
theorem ck_qi {a : ck_I} {s : ck_S} (h : ck_gs σ L M ((.inl a, s) :: AS) st) : ∃ x st', st = gm_vi x :: st' ∧ gm_ir x ∧ ck_gi σ a x ∧ ck_gr L M s (gm_vi x) ∧ ck_gs σ L M AS st' := by
  obtain ⟨v, vs, rfl, ⟨⟨x, rfl, h1, h2⟩, h3⟩, h4⟩ := h
  exact ⟨x, vs, rfl, h1, h2, h3, h4⟩
theorem ck_ql {a : ck_I} {s : ck_S} (h : ck_gs σ L M ((.inr (.inl a), s) :: AS) st) : ∃ x st', st = gm_vl x :: st' ∧ ck_r6 x ∧ ck_gi σ a x ∧ ck_gs σ L M AS st' := by
  obtain ⟨v, vs, rfl, ⟨⟨x, rfl, h1, h2⟩, h3⟩, h4⟩ := h
  exact ⟨x, vs, rfl, h1, h2, h4⟩
theorem ck_qr {k : Nat} {s : ck_S} (h : ck_gs σ L M ((.inr (.inr (.inl k)), s) :: AS) st) : ∃ st', st = gm_vr k :: st' ∧ ck_gs σ L M AS st' := by
  obtain ⟨v, vs, rfl, ⟨rfl, h3⟩, h4⟩ := h
  exact ⟨vs, rfl, h4⟩
theorem ck_qo {k : Nat} {s : ck_S} (h : ck_gs σ L M ((.inr (.inr (.inr k)), s) :: AS) st) : ∃ st', st = gm_vo k :: st' ∧ ck_gs σ L M AS st' := by
  obtain ⟨v, vs, rfl, ⟨rfl, h3⟩, h4⟩ := h
  exact ⟨vs, rfl, h4⟩
theorem ck_q1 {q : ck_A × ck_S} (h : ck_gs σ L M (q :: AS) st) : ∃ v st', st = v :: st' ∧ gm_sort v = ck_so q.1 ∧ (ck_ga σ q.1 v ∧ ck_gr L M q.2 v) ∧ ck_gs σ L M AS st' := by
  obtain ⟨v, vs, rfl, h3, h4⟩ := h
  exact ⟨v, vs, rfl, ck_so_s h3.1, h3, h4⟩
theorem ck_cvk_i {v : Int} (h : ck_cvk (gm_vi v) = true) : gm_ir v := by
  simp only [ck_cvk, Bool.and_eq_true, decide_eq_true_eq] at h
  exact h
theorem ck_cvk_l {v : Int} (h : ck_cvk (gm_vl v) = true) : ck_r6 v := by
  simp only [ck_cvk, Bool.and_eq_true, decide_eq_true_eq] at h
  exact h
theorem ck_cv_s {v : gm_V} (h : ck_cvk v = true) : ck_ga σ (ck_cv v) v := by
  rcases v with x | x | k | k
  · exact ⟨x, rfl, ck_cvk_i h, ck_one_s x⟩
  · exact ⟨x, rfl, ck_cvk_l h, ck_one_s x⟩
  · rfl
  · rfl
abbrev ck_On (O : gm_Or) (X : Int → Int) (LX : Nat) (σ : Nat → Int) (mi d : Nat) (W : List (Nat × Int × Int) × List (Nat × Int)) (n0 : Nat) (K0 : gm_K) (R0 : gm_R) (M0 : gm_M) (Q : gm_Q) (k : Nat → Nat → Nat → ck_AL → ck_AS → Nat → ck_F → Bool) : Prop := ∀ bc bs pc AL AS n F L st K R M, k bc bs pc AL AS n F = true → ck_St O σ W n0 K0 R0 M0 AL AS F L st n K R M → gm_Wp X LX d bc bs mi pc L st n K R M Q
variable {k : Nat → Nat → Nat → ck_AL → ck_AS → Nat → ck_F → Bool}
/-- a branch is taken or not -/
theorem ck_br_s {c : ClassFile.Cond} {a b : ck_I} {s t : ck_S} {x y : Int} {P : Prop} {g : ck_AL → ck_F → Bool} (hS : ck_St O σ W n0 K0 R0 M0 AL AS F L st n K R M) (hx : gm_ir x) (ha : ck_gi σ a x) (hs : ck_gr L M s (gm_vi x)) (hy : gm_ir y) (hb : ck_gi σ b y) (ht : ck_gr L M t (gm_vi y)) (hc : gm_cm c x y) (h : ck_br c a s b t AL F g = true) (hg : ∀ AL F, g AL F = true → ck_St O σ W n0 K0 R0 M0 AL AS F L st n K R M → P) : P := by
  have h1 := ck_rf_s ha hb hc
  have h2 := ck_rf_s hb ha (ck_sw_s hc)
  unfold ck_br at h
  rw [if_neg (by rw [ck_no_s h1, ck_no_s h2]; decide)] at h
  obtain ⟨f1, f2, f3, f4, f5⟩ := hS
  exact hg _ _ h ⟨f1, ck_qL_s ⟨h2.1, h2.2.1⟩ hb (ck_qL_s ⟨h1.1, h1.2.1⟩ ha (ck_rL_s (ck_rL_s f2 hs hx h1) ht hy h2)), f3, ck_qF_s ⟨h2.1, h2.2.1⟩ hb (ck_qF_s ⟨h1.1, h1.2.1⟩ ha (ck_rF_s (ck_rF_s f4 hs hx h1) ht hy h2)), f5⟩
theorem ck_tI_s {a : ck_I} {x : Int} (hs : ∀ s, s < 100 → σ s = σ0 s) (h : ck_tI a = true) (ha : ck_gi σ a x) : ck_gi σ0 a x := by
  refine ⟨ha.1, ha.2.1, fun q hq => ?_⟩
  have h1 := ha.2.2 q hq
  have h := List.all_eq_true.mp (ck_tI_def.symm.trans h) q hq
  simp only [Bool.or_eq_true, Bool.and_eq_true, decide_eq_true_eq] at h
  refine ⟨fun e => ?_, fun e => ?_⟩
  · rw [← hs q.1 (by omega)]
    exact h1.1 e
  · rw [← hs (q.1 - 1000000) (by omega)]
    exact h1.2 e
theorem ck_tA_s {a : ck_A} {v : gm_V} (hs : ∀ s, s < 100 → σ s = σ0 s) (h : ck_tA a = true) (ha : ck_ga σ a v) : ck_ga σ0 a v := by
  rcases a with a | a | k | k
  · obtain ⟨x, rfl, h1, h2⟩ := ha
    exact ⟨x, rfl, h1, ck_tI_s hs h h2⟩
  · obtain ⟨x, rfl, h1, h2⟩ := ha
    exact ⟨x, rfl, h1, ck_tI_s hs h h2⟩
  · exact ha
  · exact ha
theorem ck_tF_s (hs : ∀ s, s < 100 → σ s = σ0 s) (h : ck_tF F = true) (ha : ck_gf σ F n K R M) : ck_gf σ0 F n K R M := by
  refine ⟨ha.1, ha.2.1, fun q hq => ⟨(ha.2.2 q hq).1, fun j h1 h2 => ?_⟩⟩
  have h3 := (ha.2.2 q hq).2 j h1 h2
  exact ⟨h3.1, ck_tI_s hs (List.all_eq_true.mp (ck_tF_def.symm.trans h) q hq) h3.2⟩
theorem ck_end_s {how : Nat ⊕ Option ck_A} {o : gm_O} (hs : ∀ s, s < 100 → σ s = σ0 s) (hF : gm_Fx O n K R M) (hf : ck_gf σ F n K R M) (hfr : ck_fr W n0 K0 R0 M0 n K R M) (ho : ck_ho σ how o) (h : ck_end O outs how n F = true) : ck_Q O σ0 W n0 K0 R0 M0 outs o n K R M := by
  rw [ck_end_def] at h
  obtain ⟨oc, h1, h2⟩ := List.any_eq_true.mp h
  simp only [Bool.and_eq_true, beq_iff_eq] at h2
  obtain ⟨h3, h4, h5, h6⟩ := h2
  refine ⟨hF, hfr, oc, h1, ?_, h4, ck_tF_s hs h6 (ck_leF_s hF hf h5)⟩
  obtain ⟨o1, o2⟩ := oc
  dsimp only at h3 ⊢
  rcases how with x | _ | a <;> rcases o1 with y | _ | b
  · have : x = y := by simpa [ck_leO] using h3
    subst this
    rcases o with u | z
    · cases u <;> exact ho
    · exact ho
  · cases h3
  · cases h3
  · cases h3
  · rcases o with (_ | v) | z
    · exact trivial
    · exact ho.elim
    · exact ho.elim
  · cases h3
  · cases h3
  · cases h3
  · simp only [ck_leO, Bool.and_eq_true] at h3
    rcases o with u | z
    · cases u with
      | none => exact ho.elim
      | some v => exact ck_tA_s hs h3.2 (ck_leA_s h3.1 ho)
    · exact ho.elim
theorem ck_gas_s : ∀ {as bs : List ck_A} {vs : List gm_V}, ck_leAs as bs = true → ck_gas σ as vs → ck_gas σ bs vs := by
  intro as
  induction as with
  | nil =>
    intro bs vs h hv
    cases bs with
    | nil => exact hv
    | cons b bs => cases h
  | cons a as ih =>
    intro bs vs h hv
    cases bs with
    | nil => cases h
    | cons b bs =>
      obtain ⟨v, ws, rfl, h1, h2⟩ := hv
      have h3 : (ck_leA a b && ck_leAs as bs) = true := h
      rw [Bool.and_eq_true] at h3
      exact ⟨v, ws, rfl, ck_leA_s h3.1 h1, ih h3.2 h2⟩
/-- the arguments of a call, out of the stack -/
theorem ck_gas_app : ∀ {as bs : List ck_A} {vs ws : List gm_V}, ck_gas σ as vs → ck_gas σ bs ws → ck_gas σ (as ++ bs) (vs ++ ws) := by
  intro as
  induction as with
  | nil => intro bs vs ws h1 h2; cases h1; exact h2
  | cons a as ih =>
    intro bs vs ws h1 h2
    obtain ⟨v, us, rfl, h3, h4⟩ := h1
    exact ⟨v, us ++ ws, rfl, h3, ih h4 h2⟩
theorem ck_take : ∀ {m : Nat} {AS : ck_AS} {st : List gm_V}, ck_gs σ L M AS st → (st.take m).length = (AS.take m).length ∧ ck_gas σ ((AS.take m).reverse.map Prod.fst) (st.take m).reverse ∧ (ck_n1 (AS.take m) = true → ∀ v ∈ (st.take m).reverse, ¬ gm_sort v = 1) ∧ ck_gs σ L M (AS.drop m) (st.drop m) := by
  intro m
  induction m with
  | zero => intro AS st h; exact ⟨rfl, rfl, fun _ v hv => (nomatch hv), h⟩
  | succ m ih =>
    intro AS st h
    cases AS with
    | nil => cases h; exact ⟨rfl, rfl, fun _ v hv => (nomatch hv), rfl⟩
    | cons a AS =>
      obtain ⟨v, vs, rfl, h1, h2⟩ := h
      obtain ⟨i1, i2, i3, i4⟩ := ih h2
      refine ⟨by simp only [List.take_succ_cons, List.length_cons]; rw [i1], ?_, ?_, i4⟩
      · simp only [List.take_succ_cons, List.reverse_cons, List.map_append, List.map_cons, List.map_nil]
        exact ck_gas_app i2 ⟨v, [], rfl, h1.1, rfl⟩
      · intro h3 u hu
        simp only [List.take_succ_cons, List.reverse_cons, List.mem_append, List.mem_singleton] at hu
        simp only [ck_n1, List.take_succ_cons, List.all_cons, Bool.and_eq_true, Bool.not_eq_true', beq_eq_false_iff_ne, ne_eq] at h3
        rcases hu with hu | rfl
        · exact i3 h3.2 u hu
        · rw [ck_so_s h1.1]; exact h3.1
theorem ck_sum_s : ∀ {AS : ck_AS} {st : List gm_V}, ck_gs σ L M AS st → (st.map gm_cat).sum = (AS.map fun q => if ck_so q.1 = 1 then 2 else 1).sum := by
  intro AS
  induction AS with
  | nil => intro st h; cases h; rfl
  | cons a AS ih =>
    intro st h
    obtain ⟨v, vs, rfl, h1, h2⟩ := h
    simp only [List.map_cons, List.sum_cons]
    rw [ih h2]
    unfold gm_cat
    rw [ck_so_s h1.1]
theorem ck_sum8_s (h : ck_gs σ L M AS st) (h8 : ck_sum8 AS = true) : (st.map gm_cat).sum ≤ 8 := by
  rw [ck_sum_s h]
  exact of_decide_eq_true h8
/-- the names as the callee has them -/
def ck_sn (O : gm_Or) (σ : Nat → Int) (M : gm_M) (s : Nat) : Int := match O.2.2.nm.find? fun p => p.1 == s with
  | some p => M p.2.1 p.2.2
  | none => σ s
/-- a name stands for one cell -/
def ck_nmu (O : gm_Or) : Prop := ∀ q ∈ O.2.2.nm, O.2.2.nm.find? (fun p => p.1 == q.1) = some q
theorem ck_sn_s (hu : ck_nmu O) : ∀ q ∈ O.2.2.nm, ck_sn O σ M q.1 = M q.2.1 q.2.2 := by
  intro q hq
  unfold ck_sn
  rw [hu q hq]
theorem ck_nt_s {σ' : Nat → Int} {a : ck_I} {x : Int} (h : ck_nt a = true) (ha : ck_gi σ a x) : ck_gi σ' a x := ⟨ha.1, ha.2.1, fun q hq => by rw [List.isEmpty_iff.mp h] at hq; cases hq⟩
theorem ck_ntA_s {σ' : Nat → Int} {a : ck_A} {v : gm_V} (h : ck_ntA a = true) (ha : ck_ga σ a v) : ck_ga σ' a v := by
  rcases a with a | a | k | k
  · obtain ⟨x, h1, h2, h3⟩ := ha; exact ⟨x, h1, h2, ck_nt_s h h3⟩
  · obtain ⟨x, h1, h2, h3⟩ := ha; exact ⟨x, h1, h2, ck_nt_s h h3⟩
  · exact ha
  · exact ha
theorem ck_ntAs_s {σ' : Nat → Int} : ∀ {as : List ck_A} {vs : List gm_V}, as.all ck_ntA = true → ck_gas σ as vs → ck_gas σ' as vs := by
  intro as
  induction as with
  | nil => intro vs _ h; exact h
  | cons a as ih =>
    intro vs h hv
    obtain ⟨v, ws, rfl, h1, h2⟩ := hv
    rw [List.all_cons, Bool.and_eq_true] at h
    exact ⟨v, ws, rfl, ck_ntA_s h.1 h1, ih h.2 h2⟩
theorem ck_own_s {G : ck_F} (h : ck_gf σ (ck_cl G) n K R M) (ho : G.2.2.all (ck_own O) = true) : ck_gf (ck_sn O σ M) G n K R M := by
  refine ⟨h.1, h.2.1, fun q hq => ?_⟩
  have h1 := h.2.2 (q.1, q.2.1, q.2.2.1, (q.2.2.2.1, q.2.2.2.2.1, [])) (List.mem_map.mpr ⟨q, hq, rfl⟩)
  refine ⟨h1.1, fun j h2 h3 => ?_⟩
  have h4 := h1.2 j h2 h3
  refine ⟨h4.1, h4.2.1, h4.2.2.1, fun t ht => ?_⟩
  have h5 := List.all_eq_true.mp (List.all_eq_true.mp ho q hq) t ht
  simp only [Bool.and_eq_true, decide_eq_true_eq] at h5
  obtain ⟨h6, h7, h8, h9⟩ := h5
  refine ⟨fun _ => ?_, fun e => by omega⟩
  unfold ck_sn
  cases hp : O.2.2.nm.find? fun p => p.1 == t.1 with
  | none => rw [hp] at h9; cases h9
  | some p =>
    rw [hp] at h9
    simp only [Bool.and_eq_true, beq_iff_eq, decide_eq_true_eq] at h9
    dsimp only
    have : j = q.2.1 := by omega
    rw [h7, h9.1, h9.2, this]
    omega
theorem ck_r1_s {q t : Nat × Int} {x : Int} (hF : gm_Fx O n K R M) (hf : ck_gf σ F n K R M) (h : ck_g1 (ck_sn O σ M) q x) (ht : t ∈ ck_r1 O F q) : ck_g1 σ t x := by
  unfold ck_r1 at ht
  cases hp : O.2.2.nm.find? fun p => p.1 == (if q.1 < 1000000 then q.1 else q.1 - 1000000) with
  | none => rw [hp] at ht; cases ht
  | some p =>
    rw [hp] at ht
    dsimp only at ht
    cases hb : ck_rd O F p.2.1 p.2.2 p.2.2 with
    | none => rw [hb] at ht; cases ht
    | some b =>
      rw [hb] at ht
      obtain ⟨u, hu, rfl⟩ := List.mem_map.mp ht
      have h1 := ((ck_rd_s hF hf hb).2 p.2.2 (Int.le_refl _) (Int.le_refl _)).2.2.2 u hu
      have h2 : ck_sn O σ M (if q.1 < 1000000 then q.1 else q.1 - 1000000) = M p.2.1 p.2.2 := by
        unfold ck_sn
        rw [hp]
      by_cases e : q.1 < 1000000
      · rw [if_pos e] at h2
        have h3 := h.1 e
        rw [h2] at h3
        simp only [if_pos e]
        exact ⟨fun e2 => by have := h1.1 e2; dsimp only at e2 ⊢; omega, fun e2 => by have := h1.2 e2; dsimp only at e2 ⊢; omega⟩
      · rw [if_neg e] at h2
        have h3 := h.2 (by omega)
        rw [h2] at h3
        simp only [if_neg e]
        by_cases e2 : u.1 < 1000000
        · simp only [if_pos e2]
          have := h1.1 e2
          refine ⟨fun e3 => by dsimp only at e3; omega, fun _ => ?_⟩
          dsimp only
          rw [show u.1 + 1000000 - 1000000 = u.1 by omega]
          omega
        · simp only [if_neg e2]
          have := h1.2 (by omega)
          exact ⟨fun e3 => absurd e3 e2, fun _ => by dsimp only; omega⟩
theorem ck_rlo_s {x : Int} (hF : gm_Fx O n K R M) (hf : ck_gf σ F n K R M) : ∀ (l : List (Nat × Int)) (y : Int), (∀ q ∈ l, ck_g1 (ck_sn O σ M) q x) → y ≤ x → ck_rlo O F l y ≤ x := by
  intro l
  induction l with
  | nil => intro y _ h; exact h
  | cons q l ih =>
    intro y h hy
    refine ih _ (fun p hp => h p (List.mem_cons_of_mem _ hp)) ?_
    have h0 := h q List.mem_cons_self
    cases hp : O.2.2.nm.find? fun p => p.1 == (if q.1 < 1000000 then q.1 else q.1 - 1000000) with
    | none => exact hy
    | some p =>
      dsimp only
      cases hb : ck_rd O F p.2.1 p.2.2 p.2.2 with
      | none => exact hy
      | some b =>
        dsimp only
        have h1 := ((ck_rd_s hF hf hb).2 p.2.2 (Int.le_refl _) (Int.le_refl _)).2.1
        have h2 : ck_sn O σ M (if q.1 < 1000000 then q.1 else q.1 - 1000000) = M p.2.1 p.2.2 := by
          unfold ck_sn
          rw [hp]
        by_cases e : q.1 < 1000000
        · rw [if_pos e] at h2
          have h3 := h0.1 e
          split <;> omega
        · rw [if_neg e] at h2
          have h3 := h0.2 (by omega)
          split <;> omega
theorem ck_rhi_s {x : Int} (hF : gm_Fx O n K R M) (hf : ck_gf σ F n K R M) : ∀ (l : List (Nat × Int)) (y : Int), (∀ q ∈ l, ck_g1 (ck_sn O σ M) q x) → x ≤ y → x ≤ ck_rhi O F l y := by
  intro l
  induction l with
  | nil => intro y _ h; exact h
  | cons q l ih =>
    intro y h hy
    refine ih _ (fun p hp => h p (List.mem_cons_of_mem _ hp)) ?_
    have h0 := h q List.mem_cons_self
    by_cases e : q.1 < 1000000
    · rw [if_pos e]
      cases hp : O.2.2.nm.find? fun p => p.1 == q.1 with
      | none => exact hy
      | some p =>
        dsimp only
        cases hb : ck_rd O F p.2.1 p.2.2 p.2.2 with
        | none => exact hy
        | some b =>
          dsimp only
          have h1 := ((ck_rd_s hF hf hb).2 p.2.2 (Int.le_refl _) (Int.le_refl _)).2.2.1
          have h2 : ck_sn O σ M q.1 = M p.2.1 p.2.2 := by
            unfold ck_sn
            rw [hp]
          have h3 := h0.1 e
          split <;> omega
    · rw [if_neg e]; exact hy
theorem ck_rI_s {a : ck_I} {x : Int} (hF : gm_Fx O n K R M) (hf : ck_gf σ F n K R M) (h : ck_gi (ck_sn O σ M) a x) : ck_gi σ (ck_rI O F a) x := by
  unfold ck_rI
  split
  · rename_i e
    exact ⟨h.1, h.2.1, fun q hq => by rw [e] at hq; cases hq⟩
  · refine ⟨ck_rlo_s hF hf _ _ h.2.2 h.1, ck_rhi_s hF hf _ _ h.2.2 h.2.1, fun t ht => ?_⟩
    obtain ⟨q, hq, ht⟩ := List.mem_flatMap.mp ht
    exact ck_r1_s hF hf (h.2.2 q hq) ht
theorem ck_rA_s {a : ck_A} {v : gm_V} (hF : gm_Fx O n K R M) (hf : ck_gf σ F n K R M) (h : ck_ga (ck_sn O σ M) a v) : ck_ga σ (ck_rA O F a) v := by
  rcases a with a | a | k | k
  · obtain ⟨x, h1, h2, h3⟩ := h; exact ⟨x, h1, h2, ck_rI_s hF hf h3⟩
  · obtain ⟨x, h1, h2, h3⟩ := h; exact ⟨x, h1, h2, ck_rI_s hF hf h3⟩
  · exact h
  · exact h
theorem ck_rG_s {G : ck_F} {n' : Nat} {K' : gm_K} {R' : gm_R} {M' : gm_M} (hF : gm_Fx O n K R M) (hf : ck_gf σ F n K R M) (h : ck_gf (ck_sn O σ M) G n' K' R' M') : ck_gf σ (ck_rG O F G) n' K' R' M' := by
  refine ⟨h.1, h.2.1, fun q hq => ?_⟩
  obtain ⟨p, hp, rfl⟩ := List.mem_map.mp hq
  have h1 := h.2.2 p hp
  exact ⟨h1.1, fun j h2 h3 => ⟨(h1.2 j h2 h3).1, ck_rI_s hF hf (h1.2 j h2 h3).2⟩⟩
/-- behind a call that is known -/
theorem ck_call_s {mj pc' : Nat} {as : List ck_A} {vs : List gm_V} {AS' : ck_AS} {st' : List gm_V} (hs : ∀ s, s < 100 → σ s = σ0 s) (hE : ck_nmu O ∧ ck_OkE O X LX E) (hS : ck_St O σ W n0 K0 R0 M0 AL AS F L st n K R M) (has : ck_gas σ as vs) (hst : ck_gs σ L M AS' st') (hk : ck_On O X LX σ mi d W n0 K0 R0 M0 (ck_Q O σ0 W n0 K0 R0 M0 outs) k)
    (hcall : ∀ d' bc' bs', d' + 1 ≤ d → bc' ≤ bc → bs' ≤ bs → gm_Wp X LX d' bc' bs' mj 0 (gm_ent mj vs) [] n K R M (gm_contH X LX d (bc - bc') (bs - bs') mi pc pc' L st' (ck_Q O σ0 W n0 K0 R0 M0 outs)) → gm_Wp X LX d bc bs mi pc L st n K R M (ck_Q O σ0 W n0 K0 R0 M0 outs))
    (h : ck_call O E d n0 W bc bs n mj F as (fun bc bs how n F => match how with
          | .inl x => ck_thr O outs mi pc x n F (fun h => k bc bs h AL [(.inr (.inr (.inr 4000)), none)] n F)
          | .inr u => k bc bs pc' AL (ck_psh u AS') n F) = true) : gm_Wp X LX d bc bs mi pc L st n K R M (ck_Q O σ0 W n0 K0 R0 M0 outs) := by
  unfold ck_call at h
  simp only [fl_lk_eq, fl_all_eq] at h
  cases he : E.lookup mj with
  | none => rw [he] at h; cases h
  | some l =>
    rw [he] at h
    dsimp only at h
    cases hp : ck_pick O n F as l with
    | none => rw [hp] at h; cases h
    | some S =>
      rw [hp] at h
      dsimp only at h
      simp only [Bool.and_eq_true, decide_eq_true_eq] at h
      obtain ⟨⟨h1, h2, h3⟩, ⟨h4, h5⟩, h6⟩ := h
      rw [ck_pick_def] at hp
      have hm := List.mem_of_find?_eq_some hp
      have h7 := List.find?_some hp
      simp only [Bool.and_eq_true, beq_iff_eq] at h7
      obtain ⟨h8, h9, hnt, h10, hown⟩ := h7
      obtain ⟨f1, f2, f3, f4, f5⟩ := hS
      refine hcall S.1.1 S.1.2.1 S.1.2.2 h1 h2 h3 ?_
      refine gm_Wp_mono (fun o n' K' R' M' hq => ?_) (hE.2 mj l he S hm S.1.1 (ck_sn O σ M) vs n K R M (Nat.le_refl _) h8.symm (ck_ntAs_s hnt (ck_gas_s h9 has)) (ck_sn_s hE.1) f1 (ck_own_s (ck_leF_s f1 f4 h10) hown))
      obtain ⟨g1, g2, oc, g3, g4, g5, g6⟩ := hq
      have h11 := List.all_eq_true.mp h6 oc g3
      have g7 := ck_fr_tr f5 g2 h4 h5
      have g8 := ck_mix_s f4 (ck_rG_s f1 f4 g6) g2
      obtain ⟨o1, o2, o3⟩ := oc
      dsimp only at g4 g5 g6 g8 h11
      subst g5
      rcases o1 with x | _ | a <;> rcases o with (_ | v) | z
      · exact g4.elim
      · exact g4.elim
      · cases g4
        change ck_thr _ _ _ _ _ _ _ _ = true at h11
        unfold ck_thr at h11
        show (match gm_hit (gm_ow mi) pc x false (gm_hh mi) with
          | some (some h) => gm_Wp X LX d _ _ mi h L [gm_vo 4000] _ K' R' M' (ck_Q O σ0 W n0 K0 R0 M0 outs)
          | some none => ck_Q O σ0 W n0 K0 R0 M0 outs (.inr x) _ K' R' M'
          | none => False)
        cases hhit : gm_hit (gm_ow mi) pc x false (gm_hh mi) with
        | none => rw [hhit] at h11; cases h11
        | some o9 =>
          rw [hhit] at h11
          cases o9 with
          | none => exact ck_end_s (how := .inl x) hs g1 g8 g7 rfl h11
          | some h9 => exact hk _ _ _ _ _ _ _ _ _ _ _ _ h11 ⟨g1, f2, ⟨gm_vo 4000, [], rfl, ⟨rfl, trivial⟩, rfl⟩, g8, g7⟩
      · exact hk _ _ _ _ _ _ _ _ _ _ _ _ h11 ⟨g1, f2, ck_sh_s hst, g8, g7⟩
      · exact g4.elim
      · exact g4.elim
      · exact g4.elim
      · exact hk _ _ _ _ _ _ _ _ _ _ _ _ h11 ⟨g1, f2, ⟨v, st', rfl, ⟨ck_rA_s f1 f4 g4, trivial⟩, ck_sh_s hst⟩, g8, g7⟩
      · exact g4.elim
end CJ
end
/-! 24.ci -/
section
/-! THE CHECKER: the instructions, one by one. -/
section CI
variable {O : gm_Or} {X : Int → Int} {LX : Nat} {lx : Option Nat} {XF : List (Int × Int × ck_I)} {E : List (Nat × List ck_Sum)} {mi d n0 : Nat} {W : List (Nat × Int × Int) × List (Nat × Int)} {outs : List ck_Oc} {bc bs pc : Nat} {L : gm_L} {st : List gm_V} {n : Nat} {K : gm_K} {R : gm_R} {M : gm_M} {AL : ck_AL} {AS : ck_AS} {F : ck_F} {σ σ0 : Nat → Int} {K0 : gm_K} {R0 : gm_R} {M0 : gm_M} {k : Nat → Nat → Nat → ck_AL → ck_AS → Nat → ck_F → Bool}
theorem ck_j_ineg   (hat : gm_at mi pc = some (.ineg)) (hS : ck_St O σ W n0 K0 R0 M0 AL AS F L st n K R M) (hk : ck_On O X LX σ mi d W n0 K0 R0 M0 (ck_Q O σ0 W n0 K0 R0 M0 outs) k) (h : ck_j O lx XF E mi d n0 W outs bc bs pc AL AS n F k (.ineg) = true) : gm_Wp X LX d bc bs mi pc L st n K R M (ck_Q O σ0 W n0 K0 R0 M0 outs) := by
  rcases AS with _ | ⟨⟨a | a | r | c, s⟩, AS⟩ <;> (try exact absurd (show false = true from h) Bool.false_ne_true)
  obtain ⟨f1, f2, f3, f4, f5⟩ := hS
  obtain ⟨x, st, rfl, hx, ha, -, hst⟩ := ck_qi f3
  refine gm_sz (gm_p_un hat rfl) (ck_nv (hk _ _ _ _ _ _ _ _ _ _ _ _ h ⟨f1, f2, ck_pi (ck_w_ir _) (ck_nrm_s ⟨?_, ?_, ck_gt_none⟩) trivial hst, f4, f5⟩))
  · have := ha.2.1
    show - a.2.1 ≤ - x
    omega
  · have := ha.1
    show - x ≤ - a.1
    omega
theorem ck_j_i2b   (hat : gm_at mi pc = some (.i2b)) (hS : ck_St O σ W n0 K0 R0 M0 AL AS F L st n K R M) (hk : ck_On O X LX σ mi d W n0 K0 R0 M0 (ck_Q O σ0 W n0 K0 R0 M0 outs) k) (h : ck_j O lx XF E mi d n0 W outs bc bs pc AL AS n F k (.i2b) = true) : gm_Wp X LX d bc bs mi pc L st n K R M (ck_Q O σ0 W n0 K0 R0 M0 outs) := by
  rcases AS with _ | ⟨⟨a | a | r | c, s⟩, AS⟩ <;> (try exact absurd (show false = true from h) Bool.false_ne_true)
  obtain ⟨f1, f2, f3, f4, f5⟩ := hS
  obtain ⟨x, st, rfl, hx, ha, -, hst⟩ := ck_qi f3
  have h0 : -128 ≤ gm_wb x ∧ gm_wb x ≤ 127 := by unfold gm_wb; omega
  refine gm_sz (gm_p_un hat rfl) (hk _ _ _ _ _ _ _ _ _ _ _ _ h ⟨f1, f2, ck_pi (by unfold gm_ir; omega) ?_ trivial hst, f4, f5⟩)
  split
  · rename_i e
    have h1 : gm_wb x = x := by
      have := ha.1
      have := ha.2.1
      unfold gm_wb
      omega
    rw [h1]
    exact ha
  · exact ⟨h0.1, h0.2, ck_gt_none⟩
theorem ck_j_i2l   (hat : gm_at mi pc = some (.i2l)) (hS : ck_St O σ W n0 K0 R0 M0 AL AS F L st n K R M) (hk : ck_On O X LX σ mi d W n0 K0 R0 M0 (ck_Q O σ0 W n0 K0 R0 M0 outs) k) (h : ck_j O lx XF E mi d n0 W outs bc bs pc AL AS n F k (.i2l) = true) : gm_Wp X LX d bc bs mi pc L st n K R M (ck_Q O σ0 W n0 K0 R0 M0 outs) := by
  rcases AS with _ | ⟨⟨a | a | r | c, s⟩, AS⟩ <;> (try exact absurd (show false = true from h) Bool.false_ne_true)
  obtain ⟨f1, f2, f3, f4, f5⟩ := hS
  obtain ⟨x, st, rfl, hx, ha, -, hst⟩ := ck_qi f3
  have h1 := gm_p_i2l (X := X) (LX := LX) (d := d) (L := L) (st := st) (n := n) (K := K) (R := R) (M := M) (x := x) hat
  rw [gm_ir_w hx] at h1
  exact gm_sz h1 (hk _ _ _ _ _ _ _ _ _ _ _ _ h ⟨f1, f2, ck_pl (ck_r6_i hx) ha hst, f4, f5⟩)
theorem ck_j_l2i   (hat : gm_at mi pc = some (.l2i)) (hS : ck_St O σ W n0 K0 R0 M0 AL AS F L st n K R M) (hk : ck_On O X LX σ mi d W n0 K0 R0 M0 (ck_Q O σ0 W n0 K0 R0 M0 outs) k) (h : ck_j O lx XF E mi d n0 W outs bc bs pc AL AS n F k (.l2i) = true) : gm_Wp X LX d bc bs mi pc L st n K R M (ck_Q O σ0 W n0 K0 R0 M0 outs) := by
  rcases AS with _ | ⟨⟨a | a | r | c, s⟩, AS⟩ <;> (try exact absurd (show false = true from h) Bool.false_ne_true)
  obtain ⟨f1, f2, f3, f4, f5⟩ := hS
  obtain ⟨x, st, rfl, hx, ha, hst⟩ := ck_ql f3
  exact gm_sz (gm_p_l2i hat) (ck_nv (hk _ _ _ _ _ _ _ _ _ _ _ _ h ⟨f1, f2, ck_pi (ck_w_ir _) (ck_nrm_s ha) trivial hst, f4, f5⟩))
theorem ck_j_lcmp   (hat : gm_at mi pc = some (.lcmp)) (hS : ck_St O σ W n0 K0 R0 M0 AL AS F L st n K R M) (hk : ck_On O X LX σ mi d W n0 K0 R0 M0 (ck_Q O σ0 W n0 K0 R0 M0 outs) k) (h : ck_j O lx XF E mi d n0 W outs bc bs pc AL AS n F k (.lcmp) = true) : gm_Wp X LX d bc bs mi pc L st n K R M (ck_Q O σ0 W n0 K0 R0 M0 outs) := by
  rcases AS with _ | ⟨⟨b | b | r | c, t⟩, _ | ⟨⟨a | a | r' | c', s⟩, AS⟩⟩ <;> (try exact absurd (show false = true from h) Bool.false_ne_true)
  obtain ⟨f1, f2, f3, f4, f5⟩ := hS
  obtain ⟨y, st, rfl, hy, hb, hst⟩ := ck_ql f3
  obtain ⟨x, st, rfl, hx, ha, hst⟩ := ck_ql hst
  have hx1 : gm_w6 x = x := by unfold ck_r6 at hx; unfold gm_w6; omega
  have hy1 : gm_w6 y = y := by unfold ck_r6 at hy; unfold gm_w6; omega
  have h0 : gm_lcm x y = if y < x then 1 else if x = y then 0 else -1 := by unfold gm_lcm; rw [hx1, hy1]
  refine gm_sz (gm_p_lcmp hat) (hk _ _ _ _ _ _ _ _ _ _ _ _ h ⟨f1, f2, ck_pi ?_ ?_ trivial hst, f4, f5⟩)
  · rw [h0]
    split
    · exact ⟨by decide, by decide⟩
    · split <;> exact ⟨by decide, by decide⟩
  · obtain ⟨a1, a2, a3⟩ := _root_.id ha
    obtain ⟨b1, b2, b3⟩ := _root_.id hb
    split
    · rename_i e
      simp only [Bool.and_eq_true, Bool.or_eq_true] at e
      obtain ⟨⟨e1, e2⟩, e3⟩ := e
      have hxy : x = y := by
        rcases e3 with e3 | e4
        · have e5 := ck_sg_s ha e3
          have e6 := ck_leI_s e2 hb
          have e7 := ck_sg_s e6 e3
          omega
        · unfold ck_ex at e4
          obtain ⟨p, hp, e8⟩ := List.any_eq_true.mp e4
          have e8 := of_decide_eq_true e8
          have e5 := ((ck_leI_s e1 ha).2.2 p hp).1 e8
          have e6 := (b3 p hp).1 e8
          omega
      rw [h0, if_neg (by omega), if_pos hxy]
      exact ck_one_s 0
    · split
      · rw [h0, if_neg (by omega), if_neg (by omega)]
        exact ck_one_s (-1)
      · split
        · rw [h0, if_pos (by omega)]
          exact ck_one_s 1
        · rw [h0]
          refine ⟨?_, ?_, ck_gt_none⟩ <;> dsimp only <;> split <;> (try split) <;> decide
theorem ck_j_idiv   (hat : gm_at mi pc = some (.idiv)) (hS : ck_St O σ W n0 K0 R0 M0 AL AS F L st n K R M) (hk : ck_On O X LX σ mi d W n0 K0 R0 M0 (ck_Q O σ0 W n0 K0 R0 M0 outs) k) (h : ck_j O lx XF E mi d n0 W outs bc bs pc AL AS n F k (.idiv) = true) : gm_Wp X LX d bc bs mi pc L st n K R M (ck_Q O σ0 W n0 K0 R0 M0 outs) := by
  rcases AS with _ | ⟨⟨b | b | r | c, t⟩, _ | ⟨⟨a | a | r' | c', s⟩, AS⟩⟩ <;> (try exact absurd (show false = true from h) Bool.false_ne_true)
  obtain ⟨f1, f2, f3, f4, f5⟩ := hS
  obtain ⟨y, st, rfl, hy, hb, -, hst⟩ := ck_qi f3
  obtain ⟨x, st, rfl, hx, ha, hsx, hst⟩ := ck_qi hst
  have h : ((decide (0 < b.1) || decide (b.2.1 < 0)) && cond (ck_sgl a b s) (ck_br .lt a s (ck_one 0) none AL F (fun AL F => k bc bs (pc + 1) AL ((.inl (ck_dv (ck_rf .lt a (ck_one 0)) b), none) :: AS) n F) && ck_br .ge a s (ck_one 0) none AL F (fun AL F => k bc bs (pc + 1) AL ((.inl (ck_dv (ck_rf .ge a (ck_one 0)) b), none) :: AS) n F)) (k bc bs (pc + 1) AL ((.inl (ck_dv a b), none) :: AS) n F)) = true := h
  rw [Bool.and_eq_true] at h
  obtain ⟨h8, h⟩ := h
  simp only [Bool.or_eq_true, decide_eq_true_eq] at h8
  obtain ⟨b1, b2, b3⟩ := _root_.id hb
  have hne : ¬ gm_w y = 0 := by rw [gm_ir_w hy]; omega
  have h0 : gm_div x y = Int.tdiv x y := by unfold gm_div; rw [gm_ir_w hx, gm_ir_w hy]
  have key : ∀ a' : ck_I, ck_gi σ a' x → ck_gi σ (ck_dv a' b) (gm_w (gm_div x y)) := by
    intro a' ha'
    obtain ⟨a1, a2, a3⟩ := _root_.id ha'
    rw [h0]
    unfold ck_dv
    split
    · rename_i e
      rw [Bool.and_eq_true] at e
      rw [ck_sg_s ha' e.1, ck_sg_s hb e.2]
      exact ck_one_s _
    · split
      · rename_i e
        have hx0 : 0 ≤ x := by omega
        have hy0 : 0 < y := by omega
        have h3 : Int.tdiv x y = x / y := Int.tdiv_eq_ediv_of_nonneg hx0
        have h4 : 0 ≤ x / y := Int.ediv_nonneg hx0 (by omega)
        have h5 : x / y ≤ x := Int.ediv_le_self y hx0
        rw [h3]
        rw [gm_ir_w (by unfold gm_ir at hx ⊢; omega)]
        exact ⟨h4, by dsimp only; omega, ck_gt_none⟩
      · exact ck_top_s _
  refine gm_sz (gm_p_div hat hne) (ck_nv ?_)
  cases hg : ck_sgl a b s with
  | false =>
    rw [hg] at h
    exact hk _ _ _ _ _ _ _ _ _ _ _ _ h ⟨f1, f2, ck_pi (ck_w_ir _) (key a ha) (s := none) trivial hst, f4, f5⟩
  | true =>
    rw [hg] at h
    have h : (ck_br .lt a s (ck_one 0) none AL F (fun AL F => k bc bs (pc + 1) AL ((.inl (ck_dv (ck_rf .lt a (ck_one 0)) b), none) :: AS) n F) && ck_br .ge a s (ck_one 0) none AL F (fun AL F => k bc bs (pc + 1) AL ((.inl (ck_dv (ck_rf .ge a (ck_one 0)) b), none) :: AS) n F)) = true := h
    rw [Bool.and_eq_true] at h
    have hS0 : ck_St O σ W n0 K0 R0 M0 AL AS F L st n K R M := ⟨f1, f2, hst, f4, f5⟩
    by_cases hx0 : x < 0
    · have hc : gm_cm .lt x 0 := hx0
      exact ck_br_s (c := .lt) hS0 hx ha hsx ⟨by decide, by decide⟩ (ck_one_s 0) (t := none) trivial hc h.1 (fun AL F hq hS => hk _ _ _ _ _ _ _ _ _ _ _ _ hq ⟨hS.1, hS.2.1, ck_pi (ck_w_ir _) (key _ (ck_rf_s ha (ck_one_s 0) hc)) (s := none) trivial hS.2.2.1, hS.2.2.2.1, hS.2.2.2.2⟩)
    · have hc : gm_cm .ge x 0 := by show (0 : Int) ≤ x; omega
      exact ck_br_s (c := .ge) hS0 hx ha hsx ⟨by decide, by decide⟩ (ck_one_s 0) (t := none) trivial hc h.2 (fun AL F hq hS => hk _ _ _ _ _ _ _ _ _ _ _ _ hq ⟨hS.1, hS.2.1, ck_pi (ck_w_ir _) (key _ (ck_rf_s ha (ck_one_s 0) hc)) (s := none) trivial hS.2.2.1, hS.2.2.2.1, hS.2.2.2.2⟩)
theorem ck_j_irem   (hat : gm_at mi pc = some (.irem)) (hS : ck_St O σ W n0 K0 R0 M0 AL AS F L st n K R M) (hk : ck_On O X LX σ mi d W n0 K0 R0 M0 (ck_Q O σ0 W n0 K0 R0 M0 outs) k) (h : ck_j O lx XF E mi d n0 W outs bc bs pc AL AS n F k (.irem) = true) : gm_Wp X LX d bc bs mi pc L st n K R M (ck_Q O σ0 W n0 K0 R0 M0 outs) := by
  rcases AS with _ | ⟨⟨b | b | r | c, t⟩, _ | ⟨⟨a | a | r' | c', s⟩, AS⟩⟩ <;> (try exact absurd (show false = true from h) Bool.false_ne_true)
  obtain ⟨f1, f2, f3, f4, f5⟩ := hS
  obtain ⟨y, st, rfl, hy, hb, -, hst⟩ := ck_qi f3
  obtain ⟨x, st, rfl, hx, ha, -, hst⟩ := ck_qi hst
  have h : ((decide (0 < b.1) || decide (b.2.1 < 0)) && k bc bs (pc + 1) AL ((.inl (if (ck_sg a && ck_sg b) = true then ck_one (gm_w (Int.tmod a.1 b.1)) else if 0 ≤ a.1 ∧ 0 < b.1 then (0, b.2.1 - 1, []) else ck_top), none) :: AS) n F) = true := h
  simp only [Bool.and_eq_true, Bool.or_eq_true, decide_eq_true_eq] at h
  obtain ⟨a1, a2, a3⟩ := _root_.id ha
  obtain ⟨b1, b2, b3⟩ := _root_.id hb
  have hne : ¬ gm_w y = 0 := by rw [gm_ir_w hy]; omega
  have h0 : gm_rem x y = Int.tmod x y := by unfold gm_rem; rw [gm_ir_w hx, gm_ir_w hy]
  refine gm_sz (gm_p_rem hat hne) (ck_nv (hk _ _ _ _ _ _ _ _ _ _ _ _ h.2 ⟨f1, f2, ck_pi (ck_w_ir _) ?_ trivial hst, f4, f5⟩))
  rw [h0]
  split
  · rename_i e
    rw [ck_sg_s ha e.1, ck_sg_s hb e.2]
    exact ck_one_s _
  · split
    · rename_i e
      have hx0 : 0 ≤ x := by omega
      have hy0 : 0 < y := by omega
      have h3 : Int.tmod x y = x % y := Int.tmod_eq_emod_of_nonneg hx0
      have h4 : 0 ≤ x % y := Int.emod_nonneg x (by omega)
      have h5 : x % y < y := Int.emod_lt_of_pos x hy0
      rw [h3]
      rw [gm_ir_w (by unfold gm_ir at hy ⊢; omega)]
      exact ⟨h4, by dsimp only; omega, ck_gt_none⟩
    · exact ck_top_s _
theorem ck_j_dup   (hat : gm_at mi pc = some (.dup)) (hS : ck_St O σ W n0 K0 R0 M0 AL AS F L st n K R M) (hk : ck_On O X LX σ mi d W n0 K0 R0 M0 (ck_Q O σ0 W n0 K0 R0 M0 outs) k) (h : ck_j O lx XF E mi d n0 W outs bc bs pc AL AS n F k (.dup) = true) : gm_Wp X LX d bc bs mi pc L st n K R M (ck_Q O σ0 W n0 K0 R0 M0 outs) := by
  rcases AS with _ | ⟨q, AS⟩ <;> (try exact absurd (show false = true from h) Bool.false_ne_true)
  obtain ⟨f1, f2, f3, f4, f5⟩ := hS
  obtain ⟨v, st, rfl, hso, hv, hst⟩ := ck_q1 f3
  have h : (!(ck_so q.1 == 1) && k bc bs (pc + 1) AL (q :: q :: AS) n F) = true := h
  simp only [Bool.and_eq_true, Bool.not_eq_true', beq_eq_false_iff_ne, ne_eq] at h
  exact gm_sz (gm_p_dup hat (by rw [hso]; exact h.1)) (hk _ _ _ _ _ _ _ _ _ _ _ _ h.2 ⟨f1, f2, ⟨v, v :: st, rfl, hv, v, st, rfl, hv, hst⟩, f4, f5⟩)
theorem ck_j_pop   (hat : gm_at mi pc = some (.pop)) (hS : ck_St O σ W n0 K0 R0 M0 AL AS F L st n K R M) (hk : ck_On O X LX σ mi d W n0 K0 R0 M0 (ck_Q O σ0 W n0 K0 R0 M0 outs) k) (h : ck_j O lx XF E mi d n0 W outs bc bs pc AL AS n F k (.pop) = true) : gm_Wp X LX d bc bs mi pc L st n K R M (ck_Q O σ0 W n0 K0 R0 M0 outs) := by
  rcases AS with _ | ⟨q, AS⟩ <;> (try exact absurd (show false = true from h) Bool.false_ne_true)
  obtain ⟨f1, f2, f3, f4, f5⟩ := hS
  obtain ⟨v, st, rfl, hso, hv, hst⟩ := ck_q1 f3
  have h : (!(ck_so q.1 == 1) && k bc bs (pc + 1) AL AS n F) = true := h
  simp only [Bool.and_eq_true, Bool.not_eq_true', beq_eq_false_iff_ne, ne_eq] at h
  exact gm_sz (gm_p_pop hat (by rw [hso]; exact h.1)) (hk _ _ _ _ _ _ _ _ _ _ _ _ h.2 ⟨f1, f2, hst, f4, f5⟩)
theorem ck_j_dup2   (hat : gm_at mi pc = some (.dup2)) (hS : ck_St O σ W n0 K0 R0 M0 AL AS F L st n K R M) (hk : ck_On O X LX σ mi d W n0 K0 R0 M0 (ck_Q O σ0 W n0 K0 R0 M0 outs) k) (h : ck_j O lx XF E mi d n0 W outs bc bs pc AL AS n F k (.dup2) = true) : gm_Wp X LX d bc bs mi pc L st n K R M (ck_Q O σ0 W n0 K0 R0 M0 outs) := by
  rcases AS with _ | ⟨q, _ | ⟨q2, AS⟩⟩ <;> (try exact absurd (show false = true from h) Bool.false_ne_true)
  obtain ⟨f1, f2, f3, f4, f5⟩ := hS
  obtain ⟨v, st, rfl, hso, hv, hst⟩ := ck_q1 f3
  obtain ⟨u, st, rfl, hso2, hu, hst⟩ := ck_q1 hst
  have h : ((!(ck_so q.1 == 1) && !(ck_so q2.1 == 1)) && k bc bs (pc + 1) AL (q :: q2 :: q :: q2 :: AS) n F) = true := h
  simp only [Bool.and_eq_true, Bool.not_eq_true', beq_eq_false_iff_ne, ne_eq] at h
  exact gm_sz (gm_p_dup2 hat (by rw [hso]; exact h.1.1) (by rw [hso2]; exact h.1.2)) (hk _ _ _ _ _ _ _ _ _ _ _ _ h.2 ⟨f1, f2, ⟨v, _, rfl, hv, u, _, rfl, hu, v, _, rfl, hv, u, _, rfl, hu, hst⟩, f4, f5⟩)
theorem ck_j_iinc {j : Nat} {z : Int}  (hat : gm_at mi pc = some (.iinc j z)) (hS : ck_St O σ W n0 K0 R0 M0 AL AS F L st n K R M) (hk : ck_On O X LX σ mi d W n0 K0 R0 M0 (ck_Q O σ0 W n0 K0 R0 M0 outs) k) (h : ck_j O lx XF E mi d n0 W outs bc bs pc AL AS n F k (.iinc j z) = true) : gm_Wp X LX d bc bs mi pc L st n K R M (ck_Q O σ0 W n0 K0 R0 M0 outs) := by
  obtain ⟨f1, f2, f3, f4, f5⟩ := hS
  unfold ck_j at h
  dsimp only at h
  split at h
  · rename_i a hj
    obtain ⟨u, hu, x, rfl, hx, ha⟩ := f2.2 j _ hj
    split at h
    case isFalse => exact gm_sz (gm_p_iinc hat hu) (ck_nvL (hk _ _ _ _ _ _ _ _ _ _ _ _ h ⟨f1, ck_lst_s f2 (a := .inl _) ⟨_, rfl, ck_w_ir _, ck_top_s _⟩, ck_sl_s f3, f4, f5⟩))
    rename_i h1
    have ha2 : ck_gi σ (a.1 + z, a.2.1 + z, ck_mv a.2.2 z) (x + z) := ⟨Int.add_le_add_right ha.1 z, Int.add_le_add_right ha.2.1 z, ck_mv_s ha.2.2⟩
    have hx2 : gm_ir (x + z) := ck_in_s (σ := σ) (a := (a.1 + z, a.2.1 + z, [])) ⟨ha2.1, ha2.2.1, ck_gt_none⟩ h1
    exact gm_sz (gm_p_iinc hat hu) (hk _ _ _ _ _ _ _ _ _ _ _ _ h ⟨f1, ck_lst_s f2 (a := .inl _) ⟨_, rfl, hx2, ha2⟩, ck_sl_s f3, f4, f5⟩)
  · cases h
theorem ck_j_goto {off : Int}  (hat : gm_at mi pc = some (.goto off)) (hS : ck_St O σ W n0 K0 R0 M0 AL AS F L st n K R M) (hk : ck_On O X LX σ mi d W n0 K0 R0 M0 (ck_Q O σ0 W n0 K0 R0 M0 outs) k) (h : ck_j O lx XF E mi d n0 W outs bc bs pc AL AS n F k (.goto off) = true) : gm_Wp X LX d bc bs mi pc L st n K R M (ck_Q O σ0 W n0 K0 R0 M0 outs) := by
  obtain ⟨f1, f2, f3, f4, f5⟩ := hS
  have h : (decide (0 ≤ (pc : Int) + off) && k bc bs (gm_tgt pc off) AL AS n F) = true := h
  simp only [Bool.and_eq_true, decide_eq_true_eq] at h
  exact gm_sz (gm_p_goto hat h.1) (hk _ _ _ _ _ _ _ _ _ _ _ _ h.2 ⟨f1, f2, f3, f4, f5⟩)
theorem ck_rE_St (hS : ck_St O σ W n0 K0 R0 M0 AL AS F L st n K R M) : ck_St O σ W n0 K0 R0 M0 AL AS (ck_rE O F) L st n K R M := ⟨hS.1, hS.2.1, hS.2.2.1, ck_rE_s hS.1 hS.2.2.2.1, hS.2.2.2.2⟩
theorem ck_j_if {cc : ClassFile.Cond} {off : Int}  (hat : gm_at mi pc = some (.ifCond cc off)) (hS : ck_St O σ W n0 K0 R0 M0 AL AS F L st n K R M) (hk : ck_On O X LX σ mi d W n0 K0 R0 M0 (ck_Q O σ0 W n0 K0 R0 M0 outs) k) (h : ck_j O lx XF E mi d n0 W outs bc bs pc AL AS n F k (.ifCond cc off) = true) : gm_Wp X LX d bc bs mi pc L st n K R M (ck_Q O σ0 W n0 K0 R0 M0 outs) := by
  rcases AS with _ | ⟨⟨a | a | r | c, s⟩, AS⟩ <;> (try exact absurd (show false = true from h) Bool.false_ne_true)
  obtain ⟨x, st, rfl, hx, ha, hs9, hst⟩ := ck_qi hS.2.2.1
  have hS2 : ck_St O σ W n0 K0 R0 M0 AL AS F L st n K R M := ⟨hS.1, hS.2.1, hst, hS.2.2.2.1, hS.2.2.2.2⟩
  have h : (decide (0 ≤ (pc : Int) + off) && (ck_br cc a s (ck_one 0) none AL F (fun AL F => k bc bs (gm_tgt pc off) AL AS n (ck_rE O F)) && ck_br (ck_ng cc) a s (ck_one 0) none AL F (fun AL F => k bc bs (pc + 3) AL AS n (ck_rE O F)))) = true := h
  simp only [Bool.and_eq_true, decide_eq_true_eq] at h
  obtain ⟨h1, h2, h3⟩ := h
  have h0 : gm_ir 0 := ⟨by decide, by decide⟩
  refine gm_b_if hat h1 (fun hc => ?_) (fun hc => ?_)
  · rw [gm_cm_w hx h0] at hc
    exact ck_br_s hS2 hx ha hs9 h0 (ck_one_s 0) (t := none) trivial hc h2 (fun AL F hq hS => hk _ _ _ _ _ _ _ _ _ _ _ _ hq (ck_rE_St hS))
  · rw [gm_cm_w hx h0] at hc
    exact ck_br_s hS2 hx ha hs9 h0 (ck_one_s 0) (t := none) trivial (ck_ng_s hc) h3 (fun AL F hq hS => hk _ _ _ _ _ _ _ _ _ _ _ _ hq (ck_rE_St hS))
theorem ck_j_ic {cc : ClassFile.Cond} {off : Int}  (hat : gm_at mi pc = some (.if_icmp cc off)) (hS : ck_St O σ W n0 K0 R0 M0 AL AS F L st n K R M) (hk : ck_On O X LX σ mi d W n0 K0 R0 M0 (ck_Q O σ0 W n0 K0 R0 M0 outs) k) (h : ck_j O lx XF E mi d n0 W outs bc bs pc AL AS n F k (.if_icmp cc off) = true) : gm_Wp X LX d bc bs mi pc L st n K R M (ck_Q O σ0 W n0 K0 R0 M0 outs) := by
  rcases AS with _ | ⟨⟨b | b | r | c, t⟩, _ | ⟨⟨a | a | r' | c', s⟩, AS⟩⟩ <;> (try exact absurd (show false = true from h) Bool.false_ne_true)
  obtain ⟨y, st, rfl, hy, hb, ht9, hst⟩ := ck_qi hS.2.2.1
  obtain ⟨x, st, rfl, hx, ha, hs9, hst⟩ := ck_qi hst
  have hS2 : ck_St O σ W n0 K0 R0 M0 AL AS F L st n K R M := ⟨hS.1, hS.2.1, hst, hS.2.2.2.1, hS.2.2.2.2⟩
  unfold ck_j at h
  dsimp only at h
  rw [Bool.and_eq_true, decide_eq_true_eq] at h
  obtain ⟨h1, h⟩ := h
  cases hl : ck_lkp O F s t with
  | none =>
    rw [hl] at h
    dsimp only at h
    rw [Bool.and_eq_true] at h
    obtain ⟨h2, h3⟩ := h
    refine gm_b_ic hat h1 (fun hc => ?_) (fun hc => ?_)
    · rw [gm_cm_w hx hy] at hc
      exact ck_br_s hS2 hx ha hs9 hy hb ht9 hc h2 (fun AL F hq hS => hk _ _ _ _ _ _ _ _ _ _ _ _ hq (ck_rE_St hS))
    · rw [gm_cm_w hx hy] at hc
      exact ck_br_s hS2 hx ha hs9 hy hb ht9 (ck_ng_s hc) h3 (fun AL F hq hS => hk _ _ _ _ _ _ _ _ _ _ _ _ hq (ck_rE_St hS))
  | some w =>
    rw [hl] at h
    dsimp only at h
    rw [Bool.and_eq_true] at h
    obtain ⟨h2, h3⟩ := h
    obtain ⟨l1, l2, l3⟩ := ck_lkp_s hS.1 hS.2.2.2.1 hs9 ht9 hl
    have h0 : gm_ir 0 := ⟨by decide, by decide⟩
    refine gm_b_ic hat h1 (fun hc => ?_) (fun hc => ?_)
    · rw [gm_cm_w hx hy, ck_cm0] at hc
      exact ck_br_s hS2 l1 l2 l3 h0 (ck_one_s 0) (t := none) trivial hc h2 (fun AL F hq hS => hk _ _ _ _ _ _ _ _ _ _ _ _ hq (ck_rE_St hS))
    · rw [gm_cm_w hx hy, ck_cm0] at hc
      exact ck_br_s hS2 l1 l2 l3 h0 (ck_one_s 0) (t := none) trivial (ck_ng_s hc) h3 (fun AL F hq hS => hk _ _ _ _ _ _ _ _ _ _ _ _ hq (ck_rE_St hS))
theorem ck_j_ifnull {off : Int}  (hat : gm_at mi pc = some (.ifnull off)) (hS : ck_St O σ W n0 K0 R0 M0 AL AS F L st n K R M) (hk : ck_On O X LX σ mi d W n0 K0 R0 M0 (ck_Q O σ0 W n0 K0 R0 M0 outs) k) (h : ck_j O lx XF E mi d n0 W outs bc bs pc AL AS n F k (.ifnull off) = true) : gm_Wp X LX d bc bs mi pc L st n K R M (ck_Q O σ0 W n0 K0 R0 M0 outs) := by
  rcases AS with _ | ⟨⟨a | a | r | c, s⟩, AS⟩ <;> (try exact absurd (show false = true from h) Bool.false_ne_true)
  obtain ⟨f1, f2, f3, f4, f5⟩ := hS
  obtain ⟨st, rfl, hst⟩ := ck_qr f3
  have h : ((decide (0 ≤ (pc : Int) + off) && decide (r < 100000)) && (if r = 0 then k bc bs (gm_tgt pc off) AL AS n F else k bc bs (pc + 3) AL AS n F)) = true := h
  simp only [Bool.and_eq_true, decide_eq_true_eq] at h
  obtain ⟨⟨h1, h9⟩, h2⟩ := h
  refine gm_b_nul h9 hat h1 (fun hc => ?_) (fun hc => ?_)
  · rw [if_pos hc] at h2
    exact hk _ _ _ _ _ _ _ _ _ _ _ _ h2 ⟨f1, f2, hst, f4, f5⟩
  · rw [if_neg hc] at h2
    exact hk _ _ _ _ _ _ _ _ _ _ _ _ h2 ⟨f1, f2, hst, f4, f5⟩
theorem ck_j_ifnonnull {off : Int}  (hat : gm_at mi pc = some (.ifnonnull off)) (hS : ck_St O σ W n0 K0 R0 M0 AL AS F L st n K R M) (hk : ck_On O X LX σ mi d W n0 K0 R0 M0 (ck_Q O σ0 W n0 K0 R0 M0 outs) k) (h : ck_j O lx XF E mi d n0 W outs bc bs pc AL AS n F k (.ifnonnull off) = true) : gm_Wp X LX d bc bs mi pc L st n K R M (ck_Q O σ0 W n0 K0 R0 M0 outs) := by
  rcases AS with _ | ⟨⟨a | a | r | c, s⟩, AS⟩ <;> (try exact absurd (show false = true from h) Bool.false_ne_true)
  obtain ⟨f1, f2, f3, f4, f5⟩ := hS
  obtain ⟨st, rfl, hst⟩ := ck_qr f3
  have h : ((decide (0 ≤ (pc : Int) + off) && decide (r < 100000)) && (if r = 0 then k bc bs (pc + 3) AL AS n F else k bc bs (gm_tgt pc off) AL AS n F)) = true := h
  simp only [Bool.and_eq_true, decide_eq_true_eq] at h
  obtain ⟨⟨h1, h9⟩, h2⟩ := h
  refine gm_b_nnul h9 hat h1 (fun hc => ?_) (fun hc => ?_)
  · rw [if_neg hc] at h2
    exact hk _ _ _ _ _ _ _ _ _ _ _ _ h2 ⟨f1, f2, hst, f4, f5⟩
  · rw [if_pos hc] at h2
    exact hk _ _ _ _ _ _ _ _ _ _ _ _ h2 ⟨f1, f2, hst, f4, f5⟩
theorem ck_swk_s {a : ck_I} {s : ck_S} {x : Int} {g : Nat → Prop} {kk : Nat → ck_AL → ck_F → Bool} (hS : ck_St O σ W n0 K0 R0 M0 AL AS F L st n K R M) (hx : gm_ir x) (ha : ck_gi σ a x) (hs : ck_gr L M s (gm_vi x)) (hg : ∀ q AL F, kk q AL F = true → ck_St O σ W n0 K0 R0 M0 AL AS F L st n K R M → g q) : ∀ (os : List Int) (v : Int), (gm_ir v ∧ v + os.length ≤ 2147483648) → ck_swk a s AL F pc kk os v = true → gm_swt x g pc os v := by
  intro os
  induction os with
  | nil => intro v _ _; trivial
  | cons o os ih =>
    intro v hv h
    have h : (ck_br .eq a s (ck_one v) none AL F (kk (gm_tgt pc o)) && ck_swk a s AL F pc kk os (v + 1)) = true := h
    rw [Bool.and_eq_true] at h
    simp only [List.length_cons] at hv
    refine ⟨fun e => ?_, ?_⟩
    · have e2 : x = v := by
        rw [gm_ir_w hx] at e
        exact e
      exact ck_br_s hS hx ha hs hv.1 (ck_one_s v) (t := none) trivial (c := .eq) e2 h.1 (fun AL F hq hS => hg _ _ _ hq hS)
    · cases os with
      | nil => trivial
      | cons o2 os => exact ih (v + 1) ⟨by have := hv.1; unfold gm_ir at *; simp only [List.length_cons] at hv; omega, by simp only [List.length_cons] at hv ⊢; omega⟩ h.2
theorem ck_j_sw {df lo hi : Int} {offs : Array Int}  (hat : gm_at mi pc = some (.tableswitch df lo hi offs)) (hS : ck_St O σ W n0 K0 R0 M0 AL AS F L st n K R M) (hk : ck_On O X LX σ mi d W n0 K0 R0 M0 (ck_Q O σ0 W n0 K0 R0 M0 outs) k) (h : ck_j O lx XF E mi d n0 W outs bc bs pc AL AS n F k (.tableswitch df lo hi offs) = true) : gm_Wp X LX d bc bs mi pc L st n K R M (ck_Q O σ0 W n0 K0 R0 M0 outs) := by
  rcases AS with _ | ⟨⟨a | a | r | c, s⟩, AS⟩ <;> (try exact absurd (show false = true from h) Bool.false_ne_true)
  obtain ⟨x, st, rfl, hx, ha, hs9, hst⟩ := ck_qi hS.2.2.1
  have hS2 : ck_St O σ W n0 K0 R0 M0 AL AS F L st n K R M := ⟨hS.1, hS.2.1, hst, hS.2.2.2.1, hS.2.2.2.2⟩
  have h : ((decide (((offs.size : Nat) : Int) = hi - lo + 1) && (decide (0 ≤ (pc : Int) + df) && (offs.toList.all (fun o => decide (0 ≤ (pc : Int) + o)) && (decide (-2147483647 ≤ lo) && decide (hi < 2147483647))))) && ((ck_br .lt a s (ck_one lo) none AL F (fun AL F => k bc bs (gm_tgt pc df) AL AS n F) && ck_br .gt a s (ck_one hi) none AL F (fun AL F => k bc bs (gm_tgt pc df) AL AS n F)) && ck_swk a s AL F pc (fun q AL F => k bc bs q AL AS n F) offs.toList lo)) = true := h
  simp only [Bool.and_eq_true, decide_eq_true_eq, List.all_eq_true] at h
  obtain ⟨⟨h1, h2, h3, h4, h5⟩, ⟨h6, h7⟩, h8⟩ := h
  have hlo : gm_ir lo := by unfold gm_ir; omega
  have hhi : gm_ir hi := by unfold gm_ir; omega
  refine gm_b_sw hat h1 ⟨h2, h3⟩ (fun hc => ?_) (ck_swk_s hS2 hx ha hs9 (fun q AL F hq hS => hk _ _ _ _ _ _ _ _ _ _ _ _ hq hS) _ _ ⟨hlo, ?_⟩ h8)
  · rw [gm_ir_w hx] at hc
    rcases hc with hc | hc
    · exact ck_br_s hS2 hx ha hs9 hlo (ck_one_s lo) (t := none) trivial (c := .lt) hc h6 (fun AL F hq hS => hk _ _ _ _ _ _ _ _ _ _ _ _ hq hS)
    · exact ck_br_s hS2 hx ha hs9 hhi (ck_one_s hi) (t := none) trivial (c := .gt) hc h7 (fun AL F hq hS => hk _ _ _ _ _ _ _ _ _ _ _ _ hq hS)
  · rw [Array.length_toList]
    omega
end CI
end
