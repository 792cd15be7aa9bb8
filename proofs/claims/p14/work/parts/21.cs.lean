/-! THE CHECKER's bounds hold. -/
section CS
variable {σ : Nat → Int} {x y : Int} {a b : ck_I}
theorem ck_gt_none : ck_gt σ [] x := fun _ h => nomatch h
theorem ck_top_s (x : Int) : ck_gi σ ck_top (gm_w x) := ⟨gm_w_lo x, Int.le_of_lt_add_one (gm_w_hi x), ck_gt_none⟩
theorem ck_top_i (h : gm_ir x) : ck_gi σ ck_top x := ⟨h.1, Int.le_of_lt_add_one h.2, ck_gt_none⟩
theorem ck_one_s (x : Int) : ck_gi σ (ck_one x) x := ⟨Int.le_refl _, Int.le_refl _, ck_gt_none⟩
theorem ck_in_s (h : ck_gi σ a x) (hi : ck_in a = true) : gm_ir x := by
  unfold ck_in at hi
  simp only [Bool.and_eq_true, decide_eq_true_eq] at hi
  exact ⟨Int.le_trans hi.1 h.1, Int.lt_of_le_of_lt (Int.le_trans h.2.1 hi.2) (by decide)⟩
theorem ck_sg_s (h : ck_gi σ a x) (hs : ck_sg a = true) : x = a.1 := by
  unfold ck_sg at hs
  have hs := of_decide_eq_true hs
  obtain ⟨h1, h2, -⟩ := h
  omega
theorem ck_w_ir (x : Int) : gm_ir (gm_w x) := ⟨gm_w_lo x, gm_w_hi x⟩
theorem ck_nrm_s {z : Int} (h : ck_gi σ a z) : ck_gi σ (ck_nrm a) (gm_w z) := by
  unfold ck_nrm
  split
  · rename_i hi
    rw [gm_ir_w (ck_in_s h hi)]
    exact h
  · exact ck_top_s z
theorem ck_mv_s {t : List (Nat × Int)} {z : Int} (h : ck_gt σ t x) : ck_gt σ (ck_mv t z) (x + z) := by
  intro q hq
  unfold ck_mv at hq
  obtain ⟨p, hp, rfl⟩ := List.mem_map.mp hq
  have h1 := h p hp
  exact ⟨fun e => by have := h1.1 e; dsimp only; omega, fun e => by have := h1.2 e; dsimp only; omega⟩
theorem ck_im_s {t : List (Nat × Int)} {q : Nat × Int} (h : ck_im t q = true) (ht : ck_gt σ t x) : ck_g1 σ q x := by
  unfold ck_im at h
  obtain ⟨p, hp, h⟩ := List.any_eq_true.mp h
  have h4 := ht p hp
  simp only [Bool.or_eq_true, Bool.and_eq_true, beq_iff_eq, decide_eq_true_eq] at h
  rcases h with h3 | ⟨h5, h6, h7⟩
  · have e : p = q := Prod.ext h3.1 h3.2
    rw [← e]
    exact h4
  · refine ⟨fun e => by omega, fun _ => ?_⟩
    rcases h7 with h7 | ⟨h7, h8⟩
    · have h9 := h4.2 (by omega)
      rw [h7] at h9
      omega
    · have h9 := h4.1 h8
      have e : q.1 - 1000000 = p.1 := by omega
      rw [e]
      omega
theorem ck_and_s (x : Int) {y : Int} (hy : 0 ≤ y) (hi : gm_ir y) : 0 ≤ gm_and x y ∧ gm_and x y ≤ y := by
  unfold gm_and
  have h1 : (Int32.ofInt y).toInt = y := by rw [gm_w_toInt, gm_ir_w hi]
  have h2 : (Int32.ofInt x &&& Int32.ofInt y).toInt = ((Int32.ofInt x).toBitVec &&& (Int32.ofInt y).toBitVec).toInt := rfl
  rw [h2]
  have h3 : (Int32.ofInt y).toBitVec.toInt = y := h1
  have h4 := BitVec.toInt_eq_toNat_cond (Int32.ofInt y).toBitVec
  have h5 := BitVec.toInt_eq_toNat_cond ((Int32.ofInt x).toBitVec &&& (Int32.ofInt y).toBitVec)
  have h6 : ((Int32.ofInt x).toBitVec &&& (Int32.ofInt y).toBitVec).toNat ≤ (Int32.ofInt y).toBitVec.toNat := by
    rw [BitVec.toNat_and]
    exact Nat.and_le_right
  have h7 := (Int32.ofInt y).toBitVec.isLt
  rw [h3] at h4
  split at h4
  · rw [if_pos (by omega)] at h5
    omega
  · omega
theorem ck_and_c (x y : Int) : gm_and x y = gm_and y x := by
  unfold gm_and
  rw [Int32.and_comm]
theorem ck_aop_s {i : Instr} {f : Int → Int → Int} (hf : gm_bin i = some f) (ha : ck_gi σ a x) (hb : ck_gi σ b y) (hx : gm_ir x) (hy : gm_ir y) : ck_gi σ (ck_nrm (ck_aop i a b)) (gm_w (f x y)) := by
  have key : ck_gi σ (ck_nrm ck_top) (gm_w (f x y)) := by
    show ck_gi σ (if ck_in ck_top = true then ck_top else ck_top) _
    rw [ite_self]
    exact ck_top_s _
  obtain ⟨a1, a2, a3⟩ := ha
  obtain ⟨b1, b2, b3⟩ := hb
  unfold ck_aop
  split
  · cases hf
    refine ck_nrm_s ⟨Int.add_le_add a1 b1, Int.add_le_add a2 b2, ?_⟩
    show ck_gt σ (if ck_sg b = true then _ else _) _
    split
    · rename_i h
      rw [ck_sg_s ⟨b1, b2, b3⟩ h]
      exact ck_mv_s a3
    · split
      · rename_i h
        rw [ck_sg_s ⟨a1, a2, a3⟩ h]
        show ck_gt σ _ (a.1 + y)
        rw [Int.add_comm]
        exact ck_mv_s b3
      · exact ck_gt_none
  · cases hf
    refine ck_nrm_s ⟨Int.sub_le_sub a1 b2, Int.sub_le_sub a2 b1, ?_⟩
    show ck_gt σ (if ck_sg b = true then _ else _) _
    split
    · rename_i h
      rw [ck_sg_s ⟨b1, b2, b3⟩ h]
      show ck_gt σ _ (x - b.1)
      rw [Int.sub_eq_add_neg]
      exact ck_mv_s a3
    · exact ck_gt_none
  · cases hf
    split
    · rename_i h
      exact ck_nrm_s ⟨Int.mul_le_mul a1 b1 h.2 (Int.le_trans h.1 a1), Int.mul_le_mul a2 b2 (Int.le_trans h.2 b1) (Int.le_trans h.1 (Int.le_trans a1 a2)), ck_gt_none⟩
    · exact key
  · cases hf
    split
    · rename_i h
      have h1 := ck_and_s x (Int.le_trans h b1) hy
      exact ck_nrm_s ⟨h1.1, Int.le_trans h1.2 b2, ck_gt_none⟩
    · split
      · rename_i h
        have h1 := ck_and_s y (Int.le_trans h a1) hx
        rw [ck_and_c] at h1
        exact ck_nrm_s ⟨h1.1, Int.le_trans h1.2 a2, ck_gt_none⟩
      · exact key
  · exact key
theorem ck_bo_s {i : Instr} {f : Int → Int → Int} (hf : gm_bin i = some f) (ha : ck_gi σ a x) (hb : ck_gi σ b y) (hx : gm_ir x) (hy : gm_ir y) : ck_gi σ (ck_bo i f a b) (gm_w (f x y)) := by
  unfold ck_bo
  split
  · rename_i h
    rw [Bool.and_eq_true] at h
    rw [ck_sg_s ha h.1, ck_sg_s hb h.2]
    exact ck_one_s _
  · exact ck_aop_s hf ha hb hx hy
/-- what is known is enough -/
theorem ck_leI_s (h : ck_leI a b = true) (ha : ck_gi σ a x) : ck_gi σ b x := by
  rw [ck_leI_def] at h
  simp only [Bool.and_eq_true, decide_eq_true_eq] at h
  obtain ⟨⟨h1, h2⟩, h3⟩ := h
  exact ⟨Int.le_trans h1 ha.1, Int.le_trans ha.2.1 h2, fun q hq => ck_im_s (List.all_eq_true.mp h3 q hq) ha.2.2⟩
theorem ck_leA_s {A B : ck_A} {v : gm_V} (h : ck_leA A B = true) (ha : ck_ga σ A v) : ck_ga σ B v := by
  rcases A with a | a | k | k <;> rcases B with b | b | j | j <;> simp only [ck_leA, Bool.false_eq_true, beq_iff_eq] at h
  · obtain ⟨x, rfl, h1, h2⟩ := ha
    exact ⟨x, rfl, h1, ck_leI_s h h2⟩
  · obtain ⟨x, rfl, h1, h2⟩ := ha
    exact ⟨x, rfl, h1, ck_leI_s h h2⟩
  · subst h; exact ha
  · subst h; exact ha
theorem ck_leL_s : ∀ {A B : ck_AL} {L : gm_L}, ck_leL A B = true → ck_gl σ A L → ck_gl σ B L := by
  intro A
  induction A with
  | nil =>
    intro B L h hl
    cases B with
    | nil => exact hl
    | cons b B => cases b <;> cases h
  | cons a A ih =>
    intro B L h hl
    cases L with
    | nil => have := hl.1; simp at this
    | cons v L =>
      have hl2 : ck_gl σ A L := ⟨by have := hl.1; simpa using this, fun j b hb => hl.2 (j + 1) b hb⟩
      cases B with
      | nil => cases a <;> cases h
      | cons b B =>
        have hb2 : ck_gl σ B L ∧ ∀ b', b = some b' → ∃ u, v = some u ∧ ck_ga σ b' u := by
          cases b with
          | none =>
            have h2 : ck_leL A B = true := by cases a <;> exact h
            exact ⟨ih h2 hl2, fun _ e => nomatch e⟩
          | some b' =>
            cases a with
            | none => cases h
            | some a' =>
              have h2 : (ck_leA a' b' && ck_leL A B) = true := h
              rw [Bool.and_eq_true] at h2
              refine ⟨ih h2.2 hl2, fun b'' e => ?_⟩
              cases e
              obtain ⟨u, hu1, hu2⟩ := hl.2 0 a' rfl
              simp only [List.getElem?_cons_zero, Option.some.injEq] at hu1
              exact ⟨u, hu1, ck_leA_s h2.1 hu2⟩
        refine ⟨by simp [hb2.1.1], fun j c hc => ?_⟩
        cases j with
        | zero =>
          simp only [List.getElem?_cons_zero, Option.some.injEq] at hc
          obtain ⟨u, h1, h2⟩ := hb2.2 c hc
          exact ⟨u, by simp [h1], h2⟩
        | succ j =>
          simp only [List.getElem?_cons_succ] at hc ⊢
          exact hb2.1.2 j c hc
/-- a branch -/
theorem ck_rf_s {c : ClassFile.Cond} (ha : ck_gi σ a x) (hb : ck_gi σ b y) (h : gm_cm c x y) : ck_gi σ (ck_rf c a b) x := by
  obtain ⟨a1, a2, a3⟩ := ha
  obtain ⟨b1, b2, b3⟩ := hb
  cases c <;> simp only [gm_cm] at h <;> simp only [ck_rf]
  case eq => refine ⟨?_, ?_, a3⟩ <;> dsimp only <;> split <;> omega
  case ne =>
    split
    · split
      · exact ⟨by dsimp only; omega, a2, a3⟩
      · split
        · exact ⟨a1, by dsimp only; omega, a3⟩
        · exact ⟨a1, a2, a3⟩
    · exact ⟨a1, a2, a3⟩
  case lt => refine ⟨a1, ?_, a3⟩; dsimp only; split <;> omega
  case ge => refine ⟨?_, a2, a3⟩; dsimp only; split <;> omega
  case gt => refine ⟨?_, a2, a3⟩; dsimp only; split <;> omega
  case le => refine ⟨a1, ?_, a3⟩; dsimp only; split <;> omega
theorem ck_sw_s {c : ClassFile.Cond} (h : gm_cm c x y) : gm_cm (ck_sw c) y x := by
  cases c <;> simp only [gm_cm, ck_sw] at h ⊢ <;> omega
theorem ck_ng_s {c : ClassFile.Cond} (h : ¬ gm_cm c x y) : gm_cm (ck_ng c) x y := by
  cases c <;> simp only [gm_cm, ck_ng] at h ⊢ <;> omega
theorem ck_no_s (h : ck_gi σ a x) : ck_no a = false := by
  unfold ck_no
  exact decide_eq_false (by have := h.1; have := h.2.1; omega)
theorem ck_jn_l (h : ck_gi σ a x) : ck_gi σ (ck_jn a b) x := by
  obtain ⟨h1, h2, h3⟩ := h
  refine ⟨?_, ?_, fun q hq => h3 q (List.mem_filter.mp hq).1⟩
  · show (if a.1 ≤ b.1 then a.1 else b.1) ≤ x
    split <;> omega
  · show x ≤ (if a.2.1 ≤ b.2.1 then b.2.1 else a.2.1)
    split <;> omega
theorem ck_jn_r (h : ck_gi σ b x) : ck_gi σ (ck_jn a b) x := by
  obtain ⟨h1, h2, h3⟩ := h
  refine ⟨?_, ?_, fun q hq => ck_im_s (List.mem_filter.mp hq).2 h3⟩
  · show (if a.1 ≤ b.1 then a.1 else b.1) ≤ x
    split <;> omega
  · show x ≤ (if a.2.1 ≤ b.2.1 then b.2.1 else a.2.1)
    split <;> omega
end CS
