/-! 21.cs -/
section
/-! THE CHECKER's bounds hold. -/
section CS
variable {σ : Nat → Int} {x y : Int} {a b : ck_I}
theorem ck_gt_none : ck_gt σ [] x := fun _ h => nomatch h
theorem ck_top_s (x : Int) : ck_gi σ ck_top (gm_w x) := ⟨gm_w_lo x, Int.le_of_lt_add_one (gm_w_hi x), ck_gt_none⟩
theorem ck_one_s (x : Int) : ck_gi σ (ck_one x) x := ⟨Int.le_refl _, Int.le_refl _, ck_gt_none⟩
theorem ck_in_s (h : ck_gi σ a x) (hi : ck_in a = true) : gm_ir x := by
  unfold ck_in at hi
  simp only [Bool.and_eq_true, decide_eq_true_eq] at hi
  exact ⟨Int.le_trans hi.1 h.1, Int.lt_of_le_of_lt (Int.le_trans h.2.1 hi.2) (by decide)⟩
theorem ck_sg_s (h : ck_gi σ a x) (hs : ck_sg a = true) : x = a.1 := by
  unfold ck_sg at hs
  have hs := of_decide_eq_true hs
  obtain ⟨h1, h2, -⟩ := h
  omega
theorem ck_w_ir (x : Int) : gm_ir (gm_w x) := ⟨gm_w_lo x, gm_w_hi x⟩
theorem ck_nrm_s {z : Int} (h : ck_gi σ a z) : ck_gi σ (ck_nrm a) (gm_w z) := by
  unfold ck_nrm
  split
  · rename_i hi
    rw [gm_ir_w (ck_in_s h hi)]
    exact h
  · exact ck_top_s z
theorem ck_mv_s {t : List (Nat × Int)} {z : Int} (h : ck_gt σ t x) : ck_gt σ (ck_mv t z) (x + z) := by
  intro q hq
  unfold ck_mv at hq
  obtain ⟨p, hp, rfl⟩ := List.mem_map.mp hq
  have h1 := h p hp
  exact ⟨fun e => by have := h1.1 e; dsimp only; omega, fun e => by have := h1.2 e; dsimp only; omega⟩
theorem ck_im_s {t : List (Nat × Int)} {q : Nat × Int} (h : ck_im t q = true) (ht : ck_gt σ t x) : ck_g1 σ q x := by
  unfold ck_im at h
  obtain ⟨p, hp, h⟩ := List.any_eq_true.mp h
  have h4 := ht p hp
  simp only [Bool.or_eq_true, Bool.and_eq_true, beq_iff_eq, decide_eq_true_eq] at h
  rcases h with h3 | ⟨h5, h6, h7⟩
  · have e : p = q := Prod.ext h3.1 h3.2
    rw [← e]
    exact h4
  · refine ⟨fun e => by omega, fun _ => ?_⟩
    rcases h7 with h7 | ⟨h7, h8⟩
    · have h9 := h4.2 (by omega)
      rw [h7] at h9
      omega
    · have h9 := h4.1 h8
      have e : q.1 - 1000000 = p.1 := by omega
      rw [e]
      omega
theorem ck_and_s (x : Int) {y : Int} (hy : 0 ≤ y) (hi : gm_ir y) : 0 ≤ gm_and x y ∧ gm_and x y ≤ y := by
  unfold gm_and
  have h1 : (Int32.ofInt y).toInt = y := by rw [gm_w_toInt, gm_ir_w hi]
  have h2 : (Int32.ofInt x &&& Int32.ofInt y).toInt = ((Int32.ofInt x).toBitVec &&& (Int32.ofInt y).toBitVec).toInt := rfl
  rw [h2]
  have h3 : (Int32.ofInt y).toBitVec.toInt = y := h1
  have h4 := BitVec.toInt_eq_toNat_cond (Int32.ofInt y).toBitVec
  have h5 := BitVec.toInt_eq_toNat_cond ((Int32.ofInt x).toBitVec &&& (Int32.ofInt y).toBitVec)
  have h6 : ((Int32.ofInt x).toBitVec &&& (Int32.ofInt y).toBitVec).toNat ≤ (Int32.ofInt y).toBitVec.toNat := by
    rw [BitVec.toNat_and]
    exact Nat.and_le_right
  have h7 := (Int32.ofInt y).toBitVec.isLt
  rw [h3] at h4
  split at h4
  · rw [if_pos (by omega)] at h5
    omega
  · omega
theorem ck_and_c (x y : Int) : gm_and x y = gm_and y x := by
  unfold gm_and
  rw [Int32.and_comm]
theorem ck_aop_s {i : Instr} {f : Int → Int → Int} (hf : gm_bin i = some f) (ha : ck_gi σ a x) (hb : ck_gi σ b y) (hx : gm_ir x) (hy : gm_ir y) : ck_gi σ (ck_nrm (ck_aop i a b)) (gm_w (f x y)) := by
  have key : ck_gi σ (ck_nrm ck_top) (gm_w (f x y)) := by
    show ck_gi σ (if ck_in ck_top = true then ck_top else ck_top) _
    rw [ite_self]
    exact ck_top_s _
  obtain ⟨a1, a2, a3⟩ := ha
  obtain ⟨b1, b2, b3⟩ := hb
  unfold ck_aop
  split
  · cases hf
    refine ck_nrm_s ⟨Int.add_le_add a1 b1, Int.add_le_add a2 b2, ?_⟩
    show ck_gt σ (if ck_sg b = true then _ else _) _
    split
    · rename_i h
      rw [ck_sg_s ⟨b1, b2, b3⟩ h]
      exact ck_mv_s a3
    · split
      · rename_i h
        rw [ck_sg_s ⟨a1, a2, a3⟩ h]
        show ck_gt σ _ (a.1 + y)
        rw [Int.add_comm]
        exact ck_mv_s b3
      · exact ck_gt_none
  · cases hf
    refine ck_nrm_s ⟨Int.sub_le_sub a1 b2, Int.sub_le_sub a2 b1, ?_⟩
    show ck_gt σ (if ck_sg b = true then _ else _) _
    split
    · rename_i h
      rw [ck_sg_s ⟨b1, b2, b3⟩ h]
      show ck_gt σ _ (x - b.1)
      rw [Int.sub_eq_add_neg]
      exact ck_mv_s a3
    · exact ck_gt_none
  · cases hf
    split
    · rename_i h
      exact ck_nrm_s ⟨Int.mul_le_mul a1 b1 h.2 (Int.le_trans h.1 a1), Int.mul_le_mul a2 b2 (Int.le_trans h.2 b1) (Int.le_trans h.1 (Int.le_trans a1 a2)), ck_gt_none⟩
    · exact key
  · cases hf
    split
    · rename_i h
      have h1 := ck_and_s x (Int.le_trans h b1) hy
      exact ck_nrm_s ⟨h1.1, Int.le_trans h1.2 b2, ck_gt_none⟩
    · split
      · rename_i h
        have h1 := ck_and_s y (Int.le_trans h a1) hx
        rw [ck_and_c] at h1
        exact ck_nrm_s ⟨h1.1, Int.le_trans h1.2 a2, ck_gt_none⟩
      · exact key
  · exact key
theorem ck_bo_s {i : Instr} {f : Int → Int → Int} (hf : gm_bin i = some f) (ha : ck_gi σ a x) (hb : ck_gi σ b y) (hx : gm_ir x) (hy : gm_ir y) : ck_gi σ (ck_bo i f a b) (gm_w (f x y)) := by
  unfold ck_bo
  split
  · rename_i h
    rw [Bool.and_eq_true] at h
    rw [ck_sg_s ha h.1, ck_sg_s hb h.2]
    exact ck_one_s _
  · exact ck_aop_s hf ha hb hx hy
/-- what is known is enough -/
theorem ck_leI_s (h : ck_leI a b = true) (ha : ck_gi σ a x) : ck_gi σ b x := by
  rw [ck_leI_def] at h
  simp only [Bool.and_eq_true, decide_eq_true_eq] at h
  obtain ⟨⟨h1, h2⟩, h3⟩ := h
  exact ⟨Int.le_trans h1 ha.1, Int.le_trans ha.2.1 h2, fun q hq => ck_im_s (List.all_eq_true.mp h3 q hq) ha.2.2⟩
theorem ck_leA_s {A B : ck_A} {v : gm_V} (h : ck_leA A B = true) (ha : ck_ga σ A v) : ck_ga σ B v := by
  rcases A with a | a | k | k <;> rcases B with b | b | j | j <;> simp only [ck_leA, Bool.false_eq_true, beq_iff_eq] at h
  · obtain ⟨x, rfl, h1, h2⟩ := ha
    exact ⟨x, rfl, h1, ck_leI_s h h2⟩
  · obtain ⟨x, rfl, h1, h2⟩ := ha
    exact ⟨x, rfl, h1, ck_leI_s h h2⟩
  · subst h; exact ha
  · subst h; exact ha
theorem ck_leL_s : ∀ {A B : ck_AL} {L : gm_L}, ck_leL A B = true → ck_gl σ A L → ck_gl σ B L := by
  intro A
  induction A with
  | nil =>
    intro B L h hl
    cases B with
    | nil => exact hl
    | cons b B => cases b <;> cases h
  | cons a A ih =>
    intro B L h hl
    cases L with
    | nil => have := hl.1; simp at this
    | cons v L =>
      have hl2 : ck_gl σ A L := ⟨by have := hl.1; simpa using this, fun j b hb => hl.2 (j + 1) b hb⟩
      cases B with
      | nil => cases a <;> cases h
      | cons b B =>
        have hb2 : ck_gl σ B L ∧ ∀ b', b = some b' → ∃ u, v = some u ∧ ck_ga σ b' u := by
          cases b with
          | none =>
            have h2 : ck_leL A B = true := by cases a <;> exact h
            exact ⟨ih h2 hl2, fun _ e => nomatch e⟩
          | some b' =>
            cases a with
            | none => cases h
            | some a' =>
              have h2 : (ck_leA a' b' && ck_leL A B) = true := h
              rw [Bool.and_eq_true] at h2
              refine ⟨ih h2.2 hl2, fun b'' e => ?_⟩
              cases e
              obtain ⟨u, hu1, hu2⟩ := hl.2 0 a' rfl
              simp only [List.getElem?_cons_zero, Option.some.injEq] at hu1
              exact ⟨u, hu1, ck_leA_s h2.1 hu2⟩
        refine ⟨by simp [hb2.1.1], fun j c hc => ?_⟩
        cases j with
        | zero =>
          simp only [List.getElem?_cons_zero, Option.some.injEq] at hc
          obtain ⟨u, h1, h2⟩ := hb2.2 c hc
          exact ⟨u, by simp [h1], h2⟩
        | succ j =>
          simp only [List.getElem?_cons_succ] at hc ⊢
          exact hb2.1.2 j c hc
/-- a branch -/
theorem ck_rf_s {c : ClassFile.Cond} (ha : ck_gi σ a x) (hb : ck_gi σ b y) (h : gm_cm c x y) : ck_gi σ (ck_rf c a b) x := by
  obtain ⟨a1, a2, a3⟩ := ha
  obtain ⟨b1, b2, b3⟩ := hb
  cases c <;> simp only [gm_cm] at h <;> simp only [ck_rf]
  case eq => refine ⟨?_, ?_, a3⟩ <;> dsimp only <;> split <;> omega
  case ne =>
    split
    · split
      · exact ⟨by dsimp only; omega, a2, a3⟩
      · split
        · exact ⟨a1, by dsimp only; omega, a3⟩
        · exact ⟨a1, a2, a3⟩
    · exact ⟨a1, a2, a3⟩
  case lt => refine ⟨a1, ?_, a3⟩; dsimp only; split <;> omega
  case ge => refine ⟨?_, a2, a3⟩; dsimp only; split <;> omega
  case gt => refine ⟨?_, a2, a3⟩; dsimp only; split <;> omega
  case le => refine ⟨a1, ?_, a3⟩; dsimp only; split <;> omega
theorem ck_sw_s {c : ClassFile.Cond} (h : gm_cm c x y) : gm_cm (ck_sw c) y x := by
  cases c <;> simp only [gm_cm, ck_sw] at h ⊢ <;> omega
theorem ck_ng_s {c : ClassFile.Cond} (h : ¬ gm_cm c x y) : gm_cm (ck_ng c) x y := by
  cases c <;> simp only [gm_cm, ck_ng] at h ⊢ <;> omega
theorem ck_no_s (h : ck_gi σ a x) : ck_no a = false := by
  unfold ck_no
  exact decide_eq_false (by have := h.1; have := h.2.1; omega)
theorem ck_jn_l (h : ck_gi σ a x) : ck_gi σ (ck_jn a b) x := by
  obtain ⟨h1, h2, h3⟩ := h
  refine ⟨?_, ?_, fun q hq => h3 q (List.mem_filter.mp hq).1⟩
  · show (if a.1 ≤ b.1 then a.1 else b.1) ≤ x
    split <;> omega
  · show x ≤ (if a.2.1 ≤ b.2.1 then b.2.1 else a.2.1)
    split <;> omega
theorem ck_jn_r (h : ck_gi σ b x) : ck_gi σ (ck_jn a b) x := by
  obtain ⟨h1, h2, h3⟩ := h
  refine ⟨?_, ?_, fun q hq => ck_im_s (List.mem_filter.mp hq).2 h3⟩
  · show (if a.1 ≤ b.1 then a.1 else b.1) ≤ x
    split <;> omega
  · show x ≤ (if a.2.1 ≤ b.2.1 then b.2.1 else a.2.1)
    split <;> omega
end CS
end
/-! 22.cf -/
section
/-! THE CHECKER's locals, stack and facts hold. -/
section CF
variable {O : gm_Or} {σ : Nat → Int} {n : Nat} {K : gm_K} {R : gm_R} {M : gm_M} {L : gm_L} {AL : ck_AL} {AS : ck_AS} {st : List gm_V} {F : ck_F}
theorem ck_so_s {a : ck_A} {v : gm_V} (h : ck_ga σ a v) : gm_sort v = ck_so a := by
  rcases a with a | a | k | k
  · obtain ⟨x, rfl, -⟩ := h; rfl
  · obtain ⟨x, rfl, -⟩ := h; rfl
  · cases h; rfl
  · cases h; rfl
theorem ck_set {a : ck_A} {v : gm_V} {j : Nat} (h : ck_gl σ AL L) (ha : ck_ga σ a v) : ck_gl σ (AL.set j (some a)) (L.set j (some v)) := by
  refine ⟨by simp [h.1], fun i b hb => ?_⟩
  rw [List.getElem?_set] at hb ⊢
  by_cases e : j = i
  · rw [if_pos e] at hb ⊢
    by_cases e2 : i < AL.length
    · rw [e, if_pos e2] at hb
      rw [e, if_pos (by rw [← h.1]; exact e2)]
      cases hb
      exact ⟨v, rfl, ha⟩
    · rw [e, if_neg e2] at hb
      cases hb
  · rw [if_neg e] at hb ⊢
    exact h.2 i b hb
theorem ck_set0 {j : Nat} (h : ck_gl σ AL L) : ck_gl σ (AL.set j none) (L.set j none) := by
  refine ⟨by simp [h.1], fun i b hb => ?_⟩
  rw [List.getElem?_set] at hb ⊢
  by_cases e : j = i
  · rw [if_pos e] at hb
    split at hb <;> cases hb
  · rw [if_neg e] at hb ⊢
    exact h.2 i b hb
theorem ck_lc_s {j : Nat} (h : ck_gl σ AL L) : ck_gl σ (ck_lc AL j) (gm_lc L j) := by
  cases j with
  | zero => exact h
  | succ i =>
    refine ⟨?_, fun m b hb => ?_⟩
    · have e1 : (ck_lc AL (i + 1)).length = AL.length := by
        simp only [ck_lc]
        split <;> simp
      rw [e1, gm_lc_len, h.1]
    · have hb2 : AL[m]? = some (some b) ∧ ¬ (m = i ∧ ck_so b = 1) := by
        simp only [ck_lc] at hb
        split at hb
        · rename_i z hz
          rw [List.getElem?_set] at hb
          by_cases e : i = m
          · rw [if_pos e] at hb
            split at hb <;> cases hb
          · rw [if_neg e] at hb
            exact ⟨hb, fun h9 => e h9.1.symm⟩
        · rename_i hz
          refine ⟨hb, fun h9 => ?_⟩
          obtain ⟨rfl, h10⟩ := h9
          rcases b with b | b | b
          · cases h10
          · exact hz b hb
          · cases h10
      obtain ⟨u, hu1, hu2⟩ := h.2 m b hb2.1
      refine ⟨u, ?_, hu2⟩
      have hu3 := ck_so_s hu2
      simp only [gm_lc]
      split
      · rename_i z hz
        rw [List.getElem?_set]
        by_cases e : i = m
        · exfalso
          subst e
          rw [hz] at hu1
          cases hu1
          exact hb2.2 ⟨rfl, hu3.symm⟩
        · rw [if_neg e]; exact hu1
      · exact hu1
theorem ck_lst_s {a : ck_A} {v : gm_V} {j : Nat} (h : ck_gl σ AL L) (ha : ck_ga σ a v) : ck_gl σ (ck_lst AL j a) (gm_lst L j v) := by
  rcases a with a | a | k | k
  · obtain ⟨x, rfl, h2⟩ := ha
    exact ck_set (ck_lc_s h) ⟨x, rfl, h2⟩
  · obtain ⟨x, rfl, h2⟩ := ha
    exact ck_set0 (ck_set (ck_lc_s h) (a := .inr (.inl a)) ⟨x, rfl, h2⟩)
  · cases ha
    exact ck_set (ck_lc_s h) (a := .inr (.inr (.inl k))) rfl
  · cases ha
    exact ck_set (ck_lc_s h) (a := .inr (.inr (.inr k))) rfl
/-- the stack, if locals or heap change -/
theorem ck_sl_s {L' : gm_L} : ∀ {AS : ck_AS} {st : List gm_V}, ck_gs σ L M AS st → ck_gs σ L' M (ck_sl AS) st := by
  intro AS
  induction AS with
  | nil => intro st h; exact h
  | cons a AS ih =>
    intro st h
    obtain ⟨v, vs, rfl, ⟨h1, h2⟩, h3⟩ := h
    refine ⟨v, vs, rfl, ⟨h1, ?_⟩, ih h3⟩
    show ck_gr L' M (match a.2 with | some (.inl _) => none | s => s) v
    cases h5 : a.2 with
    | none => trivial
    | some q =>
      cases q with
      | inl j => trivial
      | inr q => rcases q with q | q <;> (rw [h5] at h2; exact h2)
theorem ck_sh_s {M' : gm_M} : ∀ {AS : ck_AS} {st : List gm_V}, ck_gs σ L M AS st → ck_gs σ L M' (ck_sh AS) st := by
  intro AS
  induction AS with
  | nil => intro st h; exact h
  | cons a AS ih =>
    intro st h
    obtain ⟨v, vs, rfl, ⟨h1, h2⟩, h3⟩ := h
    refine ⟨v, vs, rfl, ⟨h1, ?_⟩, ih h3⟩
    show ck_gr L M' (match a.2 with | some (.inr _) => none | s => s) v
    cases h5 : a.2 with
    | none => trivial
    | some q =>
      cases q with
      | inl j => rw [h5] at h2; exact h2
      | inr q => trivial
theorem ck_gr_x {q : Nat × Int} {x y : Int} (hs : ck_gr L M (some (.inl q)) (gm_vi x)) (hy : L[q.1]? = some (some (gm_vi y))) : x = y + q.2 := by
  obtain ⟨u, h1, h2⟩ := hs
  rw [hy] at h1
  cases h1
  rcases h2 with ⟨h2, h3⟩ | ⟨z, h2, h3⟩
  · cases h2; omega
  · cases h2; cases h3; rfl
theorem ck_rL_s {s : ck_S} {a : ck_I} {x : Int} (h : ck_gl σ AL L) (hs : ck_gr L M s (gm_vi x)) (hx : gm_ir x) (ha : ck_gi σ a x) : ck_gl σ (ck_rL s a AL) L := by
  unfold ck_rL
  split
  · rename_i q
    split
    · rename_i b0 hb0
      obtain ⟨u, hu, y, rfl, hy1, hy2⟩ := h.2 q.1 _ hb0
      have hxy := ck_gr_x hs hu
      refine ⟨by simp [h.1], fun i b hb => ?_⟩
      rw [List.getElem?_set] at hb
      by_cases e : q.1 = i
      · rw [if_pos e] at hb
        split at hb
        · cases hb
          rw [← e]
          have := ha.1
          have := ha.2.1
          refine ⟨gm_vi y, hu, y, rfl, hy1, ?_, ?_, hy2.2.2⟩
          · dsimp only
            split
            · omega
            · exact hy2.1
          · dsimp only
            split
            · omega
            · exact hy2.2.1
        · cases hb
      · rw [if_neg e] at hb
        exact h.2 i b hb
    · exact h
  · exact h
theorem ck_sm_s {s : ck_S} {x z : Int} (hs : ck_gr L M s (gm_vi x)) : ck_gr L M (ck_sm s z) (gm_vi (x + z)) := by
  unfold ck_sm
  split
  · rename_i q
    obtain ⟨u, h1, h2⟩ := hs
    refine ⟨u, h1, Or.inr ?_⟩
    rcases h2 with ⟨h2, h3⟩ | ⟨y, h2, h3⟩
    · exact ⟨x, h2.symm, by show gm_vi _ = gm_vi (x + (q.2 + z)); rw [h3, Int.zero_add]⟩
    · refine ⟨y, h2, ?_⟩
      cases h3
      show gm_vi _ = gm_vi (y + (q.2 + z))
      rw [Int.add_assoc]
  · rename_i q
    have h1 : gm_vi x = gm_vi (M q.1 q.2.1 + q.2.2) := hs
    cases h1
    show gm_vi _ = gm_vi (M q.1 q.2.1 + (q.2.2 + z))
    rw [Int.add_assoc]
  · rename_i q
    have h1 : gm_vi x = gm_vi (M q.1 q.2.1 - M q.2.2.1 q.2.2.2.1 + q.2.2.2.2) := hs
    cases h1
    show gm_vi _ = gm_vi (M q.1 q.2.1 - M q.2.2.1 q.2.2.2.1 + (q.2.2.2.2 + z))
    rw [Int.add_assoc]
  · trivial
theorem ck_sb_s {i : Instr} {f : Int → Int → Int} {a b : ck_I} {s t : ck_S} {x y : Int} (hf : gm_bin i = some f) (ha : ck_gi σ a x) (hs : ck_gr L M s (gm_vi x)) (hb : ck_gi σ b y) (ht : ck_gr L M t (gm_vi y)) : ck_gr L M (ck_sb i a s b t) (gm_vi (gm_w (f x y))) := by
  have a1 := ha.1
  have a2 := ha.2.1
  have b1 := hb.1
  have b2 := hb.2.1
  unfold ck_sb
  split
  · cases hf
    split
    · rename_i e
      rw [Bool.and_eq_true] at e
      have e1 := ck_sg_s hb e.1
      have e2 := ck_in_s (σ := σ) (x := x + y) (a := (a.1 + b.1, a.2.1 + b.1, [])) ⟨by dsimp only; omega, by dsimp only; omega, ck_gt_none⟩ e.2
      rw [gm_ir_w e2, e1]
      exact ck_sm_s hs
    · split
      · rename_i e
        rw [Bool.and_eq_true] at e
        have e1 := ck_sg_s ha e.1
        have e2 := ck_in_s (σ := σ) (x := x + y) (a := (b.1 + a.1, b.2.1 + a.1, [])) ⟨by dsimp only; omega, by dsimp only; omega, ck_gt_none⟩ e.2
        rw [gm_ir_w e2, Int.add_comm, e1]
        exact ck_sm_s ht
      · trivial
  · cases hf
    split
    · rename_i e
      rw [Bool.and_eq_true] at e
      have e1 := ck_sg_s hb e.1
      have e2 := ck_in_s (σ := σ) (x := x - y) (a := (a.1 - b.1, a.2.1 - b.1, [])) ⟨by dsimp only; omega, by dsimp only; omega, ck_gt_none⟩ e.2
      rw [gm_ir_w e2, Int.sub_eq_add_neg, e1]
      exact ck_sm_s hs
    · split
      · rename_i e
        have e2 := ck_in_s (σ := σ) (x := x - y) (a := (a.1 - b.2.1, a.2.1 - b.1, [])) ⟨by dsimp only; omega, by dsimp only; omega, ck_gt_none⟩ e
        rw [gm_ir_w e2]
        split
        · rename_i p q
          have h1 : gm_vi x = gm_vi (M p.1 p.2.1 + p.2.2) := hs
          have h2 : gm_vi y = gm_vi (M q.1 q.2.1 + q.2.2) := ht
          have h3 : x = M p.1 p.2.1 + p.2.2 := by cases h1; rfl
          have h4 : y = M q.1 q.2.1 + q.2.2 := by cases h2; rfl
          show gm_vi _ = gm_vi (M p.1 p.2.1 - M q.1 q.2.1 + (p.2.2 - q.2.2))
          rw [show x - y = M p.1 p.2.1 - M q.1 q.2.1 + (p.2.2 - q.2.2) by omega]
        · trivial
      · trivial
  · trivial
theorem ck_fi_s {k : Nat} {lo hi : Int} {a : ck_I} (h : ck_gf σ F n K R M) (hf : ck_fi F k lo hi = some a) : k ≤ n ∧ ∀ j, lo ≤ j → j ≤ hi → gm_ir (M k j) ∧ ck_gi σ a (M k j) := by
  rw [ck_fi_def] at hf
  cases hq : F.2.2.find? fun q => q.1 == k && (decide (q.2.1 ≤ lo) && decide (hi ≤ q.2.2.1)) with
  | none => rw [hq] at hf; cases hf
  | some q =>
    rw [hq] at hf
    simp only [Option.map_some, Option.some.injEq] at hf
    have h1 := List.find?_some hq
    have h2 := h.2.2 q (List.mem_of_find?_eq_some hq)
    simp only [Bool.and_eq_true, beq_iff_eq, decide_eq_true_eq] at h1
    obtain ⟨h3, h4, h5⟩ := h1
    subst h3 hf
    exact ⟨h2.1, fun j h6 h7 => h2.2 j (Int.le_trans h4 h6) (Int.le_trans h7 h5)⟩
theorem ck_rd_s {k : Nat} {lo hi : Int} {a : ck_I} (hF : gm_Fx O n K R M) (h : ck_gf σ F n K R M) (hf : ck_rd O F k lo hi = some a) : k ≤ n ∧ ∀ j, lo ≤ j → j ≤ hi → gm_ir (M k j) ∧ ck_gi σ a (M k j) := by
  unfold ck_rd at hf
  cases h1 : ck_fi F k lo hi with
  | some b => rw [h1] at hf; cases hf; exact ck_fi_s h h1
  | none =>
    rw [h1] at hf
    dsimp only at hf
    cases h2 : gm_tyr O k lo hi with
    | none => rw [h2] at hf; cases hf
    | some t =>
      rw [h2] at hf
      cases hf
      obtain ⟨h3, h4⟩ := gm_tyr_s hF h2
      exact ⟨h3, fun j h5 h6 => ⟨(h4 j h5 h6).1, (h4 j h5 h6).2.1, (h4 j h5 h6).2.2, fun _ h => nomatch h⟩⟩
theorem ck_fR_s {k : Nat} {j : Int} {r : Nat} (hF : gm_Fx O n K R M) (h : ck_gf σ F n K R M) (hf : ck_fR O F k j = some r) : k ≤ n ∧ R k j = r := by
  rw [ck_fR_def] at hf
  cases hq : O.2.1 k j with
  | some v =>
    rw [hq] at hf
    cases hf
    exact hF.2.1 k j r hq
  | none =>
    rw [hq] at hf
    dsimp only at hf
    cases hp : F.2.1.find? fun q => q.1 == k && decide (q.2.1 = j) with
    | none => rw [hp] at hf; cases hf
    | some q =>
      rw [hp] at hf
      simp only [Option.map_some, Option.some.injEq] at hf
      have h1 := List.find?_some hp
      have h2 := h.2.1 q (List.mem_of_find?_eq_some hp)
      simp only [Bool.and_eq_true, beq_iff_eq, decide_eq_true_eq] at h1
      obtain ⟨h3, h4⟩ := h1
      subst h3 h4 hf
      exact h2
theorem ck_kd_s {k : Nat} {q : Nat × Nat} (hF : gm_Fx O n K R M) (h : ck_gf σ F n K R M) (hf : ck_kd O F k = some q) : (1 ≤ k ∧ k ≤ n) ∧ K k = q := by
  rw [ck_kd_def] at hf
  cases hq : O.1 k with
  | some v =>
    rw [hq] at hf
    cases hf
    obtain ⟨h1, h2, h3⟩ := hF.1 k q hq
    exact ⟨⟨h1, h2⟩, h3⟩
  | none =>
    rw [hq] at hf
    dsimp only at hf
    cases hp : F.1.find? fun q => q.1 == k with
    | none => rw [hp] at hf; cases hf
    | some p =>
      rw [hp] at hf
      simp only [Option.map_some, Option.some.injEq] at hf
      have h1 := List.find?_some hp
      have h2 := h.1 p (List.mem_of_find?_eq_some hp)
      simp only [beq_iff_eq] at h1
      subst h1 hf
      exact h2
theorem ck_pcs_s {k : Nat} {b : ck_I} (h : ck_gf σ F n K R M) : ∀ (f : Nat) (lo hi : Int), ck_pcs F k b f lo hi = true → (lo ≤ hi → k ≤ n) ∧ ∀ j, lo ≤ j → j ≤ hi → gm_ir (M k j) ∧ ck_gi σ b (M k j) := by
  intro f
  induction f with
  | zero =>
    intro lo hi hc
    have hc := of_decide_eq_true (show decide (hi < lo) = true from hc)
    exact ⟨fun _ => by omega, fun j _ _ => by omega⟩
  | succ f ih =>
    intro lo hi hc
    unfold ck_pcs at hc
    simp only [fl_and, fl_or, fl_beq, fl_blt, fl_le_eq, fl_lt_eq, fl_ie_eq, fl_any_eq, fl_all_eq, fl_find_eq, fl_lk_eq, fl_nth_eq] at hc
    rw [Bool.or_eq_true, decide_eq_true_eq] at hc
    rcases hc with hc | hc
    · exact ⟨fun _ => by omega, fun j _ _ => by omega⟩
    · cases hq : F.2.2.find? fun q => q.1 == k && (decide (q.2.1 ≤ lo) && decide (lo ≤ q.2.2.1)) with
      | none => rw [hq] at hc; cases hc
      | some q =>
        rw [hq] at hc
        dsimp only at hc
        rw [Bool.and_eq_true] at hc
        have h1 := List.find?_some hq
        have h2 := h.2.2 q (List.mem_of_find?_eq_some hq)
        simp only [Bool.and_eq_true, beq_iff_eq, decide_eq_true_eq] at h1
        obtain ⟨h3, h4, h5⟩ := h1
        subst h3
        refine ⟨fun _ => h2.1, fun j h6 h7 => ?_⟩
        by_cases e : j ≤ q.2.2.1
        · have h8 := h2.2 j (by omega) e
          exact ⟨h8.1, ck_leI_s hc.1 h8.2⟩
        · exact (ih _ _ hc.2).2 j (by omega) h7
theorem ck_leF_s {G : ck_F} (hF : gm_Fx O n K R M) (h : ck_gf σ F n K R M) (hl : ck_leF O F G = true) : ck_gf σ G n K R M := by
  rw [ck_leF_def] at hl
  simp only [Bool.and_eq_true] at hl
  obtain ⟨h1, h2, h3⟩ := hl
  refine ⟨fun q hq => ?_, fun q hq => ?_, fun q hq => ?_⟩
  · have h4 := List.all_eq_true.mp h1 q hq
    cases hp : ck_kd O F q.1 with
    | none => rw [hp] at h4; cases h4
    | some p =>
      rw [hp] at h4
      simp only [Bool.and_eq_true, beq_iff_eq] at h4
      obtain ⟨h5, h6⟩ := ck_kd_s hF h hp
      exact ⟨h5, by rw [h6]; exact Prod.ext h4.1 h4.2⟩
  · have h4 := List.all_eq_true.mp h2 q hq
    cases hp : ck_fR O F q.1 q.2.1 with
    | none => rw [hp] at h4; cases h4
    | some p =>
      rw [hp] at h4
      simp only [beq_iff_eq] at h4
      rw [← h4]
      exact ck_fR_s hF h hp
  · rw [Bool.or_eq_true] at h3
    rcases h3 with h3 | h3
    · obtain ⟨f, hf, h4⟩ := fl_mf_s h3 hq
      unfold fl_cf at h4
      rw [fl_and, fl_and, fl_and, Bool.and_eq_true, Bool.and_eq_true, Bool.and_eq_true, fl_le_eq, fl_le_eq, decide_eq_true_eq, decide_eq_true_eq] at h4
      obtain ⟨e1, e2, e3, e4⟩ := h4
      obtain ⟨g1, g2⟩ := h.2.2 f hf
      have e1 := Nat.eq_of_beq_eq_true e1
      rw [e1] at g1 g2
      exact ⟨g1, fun j h7 h8 => ⟨(g2 j (by omega) (by omega)).1, ck_leI_s e4 (g2 j (by omega) (by omega)).2⟩⟩
    have h4 := List.all_eq_true.mp h3 q hq
    rw [Bool.or_eq_true] at h4
    rcases h4 with h4 | h4
    · cases hp : ck_rd O F q.1 q.2.1 q.2.2.1 with
      | none => rw [hp] at h4; cases h4
      | some p =>
        rw [hp] at h4
        obtain ⟨h5, h6⟩ := ck_rd_s hF h hp
        exact ⟨h5, fun j h7 h8 => ⟨(h6 j h7 h8).1, ck_leI_s h4 (h6 j h7 h8).2⟩⟩
    · rw [Bool.and_eq_true, decide_eq_true_eq] at h4
      obtain ⟨h5, h6⟩ := ck_pcs_s h _ _ _ h4.2
      exact ⟨h5 h4.1, h6⟩
/-- a cell of a row or a field, seen by its type -/
theorem ck_tf_s {k : Nat} {j : Int} {t : Int × Int} (hF : gm_Fx O n K R M) (h : ck_gf σ F n K R M) (hf : gm_tyr O k j j = some t) : ck_gf σ (F.1, F.2.1, (k, j, j, (t.1, t.2, [])) :: F.2.2) n K R M := by
  refine ⟨h.1, h.2.1, fun q hq => ?_⟩
  rcases List.mem_cons.mp hq with rfl | hq
  · obtain ⟨h3, h4⟩ := gm_tyr_s hF hf
    exact ⟨h3, fun i h5 h6 => ⟨(h4 i h5 h6).1, (h4 i h5 h6).2.1, (h4 i h5 h6).2.2, fun _ h => nomatch h⟩⟩
  · exact h.2.2 q hq
theorem ck_rF_s {s : ck_S} {a a0 : ck_I} {x : Int} (h : ck_gf σ F n K R M) (hs : ck_gr L M s (gm_vi x)) (hx : gm_ir x) (ha : ck_gi σ a x) : ck_gf σ (ck_rF s a a0 F) n K R M := by
  unfold ck_rF
  split
  · rename_i q
    split
    · rename_i b hb
      split
      · obtain ⟨g1, g2⟩ := ck_fi_s h hb
        refine ⟨h.1, h.2.1, fun p hp => ?_⟩
        rcases List.mem_cons.mp hp with rfl | hp
        · refine ⟨g1, fun j h1 h2 => ?_⟩
          have h3 : q.2.1 = j := Int.le_antisymm h1 h2
          subst h3
          obtain ⟨g3, g4, g5, g6⟩ := g2 q.2.1 (Int.le_refl _) (Int.le_refl _)
          have h4 : gm_vi x = gm_vi (M q.1 q.2.1 + q.2.2) := hs
          have h5 : x = M q.1 q.2.1 + q.2.2 := by cases h4; rfl
          have := ha.1
          have := ha.2.1
          refine ⟨g3, ?_, ?_, g6⟩
          · dsimp only
            split
            · omega
            · exact g4
          · dsimp only
            split
            · omega
            · exact g5
        · exact h.2.2 p hp
      · exact h
    · exact h
  · rename_i q
    split
    · rename_i b c hb hc
      split
      · obtain ⟨g1, g2⟩ := ck_fi_s h hb
        obtain ⟨k1, k2⟩ := ck_fi_s h hc
        obtain ⟨g3, g4, g5, g6⟩ := g2 q.2.1 (Int.le_refl _) (Int.le_refl _)
        obtain ⟨k3, k4, k5, k6⟩ := k2 q.2.2.2.1 (Int.le_refl _) (Int.le_refl _)
        have h4 : gm_vi x = gm_vi (M q.1 q.2.1 - M q.2.2.1 q.2.2.2.1 + q.2.2.2.2) := hs
        have h5 : x = M q.1 q.2.1 - M q.2.2.1 q.2.2.2.1 + q.2.2.2.2 := by cases h4; rfl
        have := ha.1
        have := ha.2.1
        refine ⟨h.1, h.2.1, fun p hp => ?_⟩
        rcases List.mem_cons.mp hp with rfl | hp
        · refine ⟨g1, fun j h1 h2 => ?_⟩
          have h3 : q.2.1 = j := Int.le_antisymm h1 h2
          subst h3
          refine ⟨g3, ?_, ?_, g6⟩
          · dsimp only
            split
            · omega
            · exact g4
          · dsimp only
            split
            · omega
            · exact g5
        · rcases List.mem_cons.mp hp with rfl | hp
          · refine ⟨k1, fun j h1 h2 => ?_⟩
            have h3 : q.2.2.2.1 = j := Int.le_antisymm h1 h2
            subst h3
            refine ⟨k3, ?_, ?_, k6⟩
            · dsimp only
              split
              · omega
              · exact k4
            · dsimp only
              split
              · omega
              · exact k5
          · exact h.2.2 p hp
      · exact h
    · exact h
  · exact h
theorem ck_tg_s {nm : Nat} {lo hi x : Int} {b : ck_I} (hn : nm < 100) (h1 : lo ≤ σ nm) (h2 : σ nm ≤ hi) (h : ck_gi σ b x) : ck_gi σ (ck_tg nm lo hi b) x := by
  unfold ck_tg
  cases hq : b.2.2.find? fun q => q.1 == nm with
  | none => exact h
  | some q =>
    have h3 := List.find?_some hq
    rw [beq_iff_eq] at h3
    have h4 := (h.2.2 q (List.mem_of_find?_eq_some hq)).1 (by omega)
    rw [h3] at h4
    refine ⟨?_, ?_, h.2.2⟩
    · dsimp only
      split
      · omega
      · exact h.1
    · dsimp only
      split
      · omega
      · exact h.2.1
theorem ck_tgL_s {nm : Nat} {lo hi : Int} (hn : nm < 100) (h1 : lo ≤ σ nm) (h2 : σ nm ≤ hi) (h : ck_gl σ AL L) : ck_gl σ (ck_tgL nm lo hi AL) L := by
  unfold ck_tgL
  refine ⟨by rw [List.length_map]; exact h.1, fun j b hb => ?_⟩
  rw [List.getElem?_map] at hb
  cases ha : AL[j]? with
  | none => rw [ha] at hb; cases hb
  | some a =>
    rw [ha] at hb
    cases a with
    | none => cases hb
    | some a =>
      simp only [Option.map_some, Option.some.injEq] at hb
      subst hb
      obtain ⟨u, h3, h4⟩ := h.2 j a ha
      refine ⟨u, h3, ?_⟩
      rcases a with a | a | k | k
      · obtain ⟨x, h5, h6, h7⟩ := h4
        exact ⟨x, h5, h6, ck_tg_s hn h1 h2 h7⟩
      · exact h4
      · exact h4
      · exact h4
theorem ck_tgF_s {nm : Nat} {lo hi : Int} (hn : nm < 100) (h1 : lo ≤ σ nm) (h2 : σ nm ≤ hi) (h : ck_gf σ F n K R M) : ck_gf σ (ck_tgF nm lo hi F) n K R M := by
  refine ⟨h.1, h.2.1, fun q hq => ?_⟩
  obtain ⟨p, hp, rfl⟩ := List.mem_map.mp hq
  have h3 := h.2.2 p hp
  exact ⟨h3.1, fun j h4 h5 => ⟨(h3.2 j h4 h5).1, ck_tg_s hn h1 h2 (h3.2 j h4 h5).2⟩⟩
theorem ck_ptL_s {lo hi x : Int} (h1 : lo ≤ x) (h2 : x ≤ hi) : ∀ (l : List (Nat × Int)) (AL : ck_AL), ck_gt σ l x → ck_gl σ AL L → ck_gl σ (ck_ptL lo hi l AL) L := by
  intro l
  induction l with
  | nil => intro AL _ h; exact h
  | cons q l ih =>
    intro AL ht h
    refine ih _ (fun p hp => ht p (List.mem_cons_of_mem _ hp)) ?_
    split
    · rename_i e
      have h3 := (ht q List.mem_cons_self).1 (by omega)
      exact ck_tgL_s e (by omega) (by omega) h
    · exact h
theorem ck_ptF_s {lo hi x : Int} (h1 : lo ≤ x) (h2 : x ≤ hi) : ∀ (l : List (Nat × Int)) (F : ck_F), ck_gt σ l x → ck_gf σ F n K R M → ck_gf σ (ck_ptF lo hi l F) n K R M := by
  intro l
  induction l with
  | nil => intro F _ h; exact h
  | cons q l ih =>
    intro F ht h
    refine ih _ (fun p hp => ht p (List.mem_cons_of_mem _ hp)) ?_
    split
    · rename_i e
      have h3 := (ht q List.mem_cons_self).1 (by omega)
      exact ck_tgF_s e (by omega) (by omega) h
    · exact h
theorem ck_qL_s {a a0 : ck_I} {x : Int} (ha : a.1 ≤ x ∧ x ≤ a.2.1) (h0 : ck_gi σ a0 x) (h : ck_gl σ AL L) : ck_gl σ (ck_qL a a0 AL) L := by
  unfold ck_qL
  cases ck_eqb a a0 with
  | true => exact h
  | false => exact ck_ptL_s ha.1 ha.2 _ _ h0.2.2 h
theorem ck_qF_s {a a0 : ck_I} {x : Int} (ha : a.1 ≤ x ∧ x ≤ a.2.1) (h0 : ck_gi σ a0 x) (h : ck_gf σ F n K R M) : ck_gf σ (ck_qF a a0 F) n K R M := by
  unfold ck_qF
  cases ck_eqb a a0 with
  | true => exact h
  | false => exact ck_ptF_s ha.1 ha.2 _ _ h0.2.2 h
theorem ck_up_s {k : Nat} {lo hi e x : Int} {a : ck_I} (h : ck_gf σ F n K R M) (hk : k ≤ n) (h1 : lo ≤ e) (h2 : e ≤ hi) (hx : gm_ir x) (ha : ck_gi σ a x) : ck_gf σ (ck_up F k lo hi a) n K R (gm_uM M k e x) := by
  refine ⟨h.1, h.2.1, fun q hq => ?_⟩
  rw [ck_up_def] at hq
  rcases List.mem_append.mp hq with h9 | h9
  · split at h9
    · rename_i e9
      have h10 : q = (k, lo, lo, a) := by simpa using h9
      subst h10
      subst e9
      have : e = lo := Int.le_antisymm h2 h1
      subst this
      refine ⟨hk, fun j h3 h4 => ?_⟩
      have : j = e := Int.le_antisymm h4 h3
      subst this
      unfold gm_uM
      rw [if_pos ⟨rfl, rfl⟩]
      exact ⟨hx, ha⟩
    · cases h9
  · obtain ⟨p, hp, hp2⟩ := List.mem_flatMap.mp h9
    have h5 := h.2.2 p hp
    split at hp2
    · rename_i e1
      unfold ck_cut at hp2
      split at hp2
      · rename_i e2
        subst e2
        have h0 : e = lo := Int.le_antisymm h2 h1
        subst h0
        rcases List.mem_append.mp hp2 with h10 | h10
        · split at h10
          · have h11 : q = (p.1, p.2.1, e - 1, p.2.2.2) := by simpa using h10
            subst h11
            refine ⟨h5.1, fun j h6 h7 => ?_⟩
            dsimp only at h6 h7 ⊢
            unfold gm_uM
            rw [if_neg (by rintro ⟨-, rfl⟩; omega)]
            exact h5.2 j h6 (by omega)
          · cases h10
        · split at h10
          · have h11 : q = (p.1, e + 1, p.2.2.1, p.2.2.2) := by simpa using h10
            subst h11
            refine ⟨h5.1, fun j h6 h7 => ?_⟩
            dsimp only at h6 h7 ⊢
            unfold gm_uM
            rw [if_neg (by rintro ⟨-, rfl⟩; omega)]
            exact h5.2 j (by omega) h7
          · cases h10
      · have h11 : q = (p.1, p.2.1, p.2.2.1, ck_jn p.2.2.2 a) := by simpa using hp2
        subst h11
        refine ⟨h5.1, fun j h6 h7 => ?_⟩
        dsimp only at h6 h7 ⊢
        unfold gm_uM
        split
        · exact ⟨hx, ck_jn_r ha⟩
        · exact ⟨(h5.2 j h6 h7).1, ck_jn_l (h5.2 j h6 h7).2⟩
    · rename_i e1
      have h11 : q = p := by simpa using hp2
      subst h11
      refine ⟨h5.1, fun j h6 h7 => ?_⟩
      unfold gm_uM
      rw [if_neg (by rintro ⟨h8, rfl⟩; exact e1 ⟨h8, Int.le_trans h6 h2, Int.le_trans h1 h7⟩)]
      exact h5.2 j h6 h7
theorem ck_upT_s {k : Nat} {lo hi e x : Int} {a : ck_I} (h : ck_gf σ F n K R M) (hk : k ≤ n) (h1 : lo ≤ e) (h2 : e ≤ hi) (hx : gm_ir x) (ha : ck_gi σ a x) : ck_gf σ (ck_upT O F k lo hi a) n K R (gm_uM M k e x) := by
  have h3 := ck_up_s h hk h1 h2 hx ha
  unfold ck_upT
  split
  · exact ⟨h3.1, h3.2.1, fun q hq => h3.2.2 q (List.mem_of_mem_drop hq)⟩
  · exact h3
theorem ck_upR_s {k r : Nat} {j : Int} (h : ck_gf σ F n K R M) (hk : k ≤ n) : ck_gf σ (ck_upR F k j r) n K (gm_uR R k j r) M := by
  refine ⟨h.1, fun q hq => ?_, h.2.2⟩
  rcases List.mem_cons.mp hq with rfl | hq
  · exact ⟨hk, by show gm_uR R k j r k j = r; unfold gm_uR; rw [if_pos ⟨rfl, rfl⟩]⟩
  · obtain ⟨h1, h2⟩ := List.mem_filter.mp hq
    have h3 := h.2.1 q h1
    refine ⟨h3.1, ?_⟩
    unfold gm_uR
    rw [if_neg (by rintro ⟨rfl, rfl⟩; simp at h2)]
    exact h3.2
/-- what was not to be written was not written -/
theorem ck_fr_M {W : List (Nat × Int × Int) × List (Nat × Int)} {n0 k : Nat} {K0 : gm_K} {R0 : gm_R} {M0 : gm_M} {lo hi e x : Int} (h : ck_fr W n0 K0 R0 M0 n K R M) (hw : ck_okW W.1 n0 k lo hi = true) (h1 : lo ≤ e) (h2 : e ≤ hi) : ck_fr W n0 K0 R0 M0 n K R (gm_uM M k e x) := by
  refine ⟨h.1, h.2.1, fun a b ha hb => ?_, h.2.2.2⟩
  rw [← h.2.2.1 a b ha hb]
  unfold gm_uM
  rw [if_neg]
  rintro ⟨rfl, rfl⟩
  rw [ck_okW_def] at hw
  simp only [Bool.or_eq_true, decide_eq_true_eq, List.any_eq_true, Bool.and_eq_true, beq_iff_eq] at hw
  rcases hw with hw | ⟨w, hw1, hw2, hw3, hw4⟩
  · omega
  · exact hb w hw1 ⟨hw2, Int.le_trans hw3 h1, Int.le_trans h2 hw4⟩
theorem ck_fr_R {W : List (Nat × Int × Int) × List (Nat × Int)} {n0 k r : Nat} {K0 : gm_K} {R0 : gm_R} {M0 : gm_M} {j : Int} (h : ck_fr W n0 K0 R0 M0 n K R M) (hw : ck_okR W.2 n0 k j = true) : ck_fr W n0 K0 R0 M0 n K (gm_uR R k j r) M := by
  refine ⟨h.1, h.2.1, h.2.2.1, fun a b ha hb => ?_⟩
  rw [← h.2.2.2 a b ha hb]
  unfold gm_uR
  rw [if_neg]
  rintro ⟨rfl, rfl⟩
  rw [ck_okR_def] at hw
  simp only [Bool.or_eq_true, decide_eq_true_eq, List.any_eq_true, Bool.and_eq_true, beq_iff_eq] at hw
  rcases hw with hw | ⟨w, hw1, rfl, rfl⟩
  · omega
  · exact hb hw1
theorem ck_fr_n {W : List (Nat × Int × Int) × List (Nat × Int)} {n0 kd len : Nat} {K0 : gm_K} {R0 : gm_R} {M0 : gm_M} (h : ck_fr W n0 K0 R0 M0 n K R M) : ck_fr W n0 K0 R0 M0 (n + 1) (gm_nK K n kd len) (gm_nR R n) (gm_nM M n) := by
  have h0 := h.1
  refine ⟨by omega, fun a ha => ?_, fun a b ha hb => ?_, fun a b ha hb => ?_⟩
  · unfold gm_nK; rw [if_neg (by omega)]; exact h.2.1 a ha
  · unfold gm_nM; rw [if_neg (by omega)]; exact h.2.2.1 a b ha hb
  · unfold gm_nR; rw [if_neg (by omega)]; exact h.2.2.2 a b ha hb
theorem ck_fr_0 {W : List (Nat × Int × Int) × List (Nat × Int)} : ck_fr W n K R M n K R M := ⟨Nat.le_refl _, fun _ _ => rfl, fun _ _ _ _ => rfl, fun _ _ _ _ => rfl⟩
theorem ck_new_s {kd len : Nat} {l : List (Nat × Int × Int × ck_I)} (h : ck_gf σ F n K R M) (hl : ∀ q ∈ l, q.1 = n + 1 ∧ q.2.2.2 = ck_one 0) : ck_gf σ ((n + 1, kd, len) :: F.1, F.2.1, l ++ F.2.2) (n + 1) (gm_nK K n kd len) (gm_nR R n) (gm_nM M n) := by
  refine ⟨fun q hq => ?_, fun q hq => ?_, fun q hq => ?_⟩
  · rcases List.mem_cons.mp hq with rfl | hq
    · exact ⟨⟨by omega, by omega⟩, by show gm_nK K n kd len (n + 1) = _; unfold gm_nK; rw [if_pos rfl]⟩
    · have h1 := h.1 q hq
      refine ⟨⟨h1.1.1, by omega⟩, ?_⟩
      unfold gm_nK
      rw [if_neg (by omega)]
      exact h1.2
  · have h1 := h.2.1 q hq
    refine ⟨by omega, ?_⟩
    unfold gm_nR
    rw [if_neg (by omega)]
    exact h1.2
  · rcases List.mem_append.mp hq with hq | hq
    · obtain ⟨e1, e2⟩ := hl q hq
      rw [e1, e2]
      refine ⟨Nat.le_refl _, fun j h3 h4 => ?_⟩
      unfold gm_nM
      rw [if_pos rfl]
      exact ⟨⟨by decide, by decide⟩, ck_one_s 0⟩
    · have h1 := h.2.2 q hq
      refine ⟨by omega, fun j h3 h4 => ?_⟩
      unfold gm_nM
      rw [if_neg (by omega)]
      exact h1.2 j h3 h4
theorem ck_nl0 : ∀ q ∈ ([] : List (Nat × Int × Int × ck_I)), q.1 = n + 1 ∧ q.2.2.2 = ck_one 0 := fun _ h => nomatch h
theorem ck_nl1 {a b : Int} : ∀ q ∈ [((n + 1, a, b, ck_one 0) : Nat × Int × Int × ck_I)], q.1 = n + 1 ∧ q.2.2.2 = ck_one 0 := fun q h => by
  have : q = (n + 1, a, b, ck_one 0) := by simpa using h
  subst this
  exact ⟨rfl, rfl⟩
theorem ck_nlr {m : Nat} : ∀ q ∈ ((List.range m).map fun (j : Nat) => ((n + 1, (j : Int), (j : Int), ck_one 0) : Nat × Int × Int × ck_I)), q.1 = n + 1 ∧ q.2.2.2 = ck_one 0 := fun q h => by
  obtain ⟨j, -, rfl⟩ := List.mem_map.mp h
  exact ⟨rfl, rfl⟩
theorem ck_cw_s {w : Nat × Int × Int} {p q : Nat × Int × Int × ck_I} (h : q ∈ ck_cw w p) : q.1 = p.1 ∧ q.2.2.2 = p.2.2.2 ∧ ∀ j, q.2.1 ≤ j → j ≤ q.2.2.1 → (p.2.1 ≤ j ∧ j ≤ p.2.2.1) ∧ ¬ (w.1 = p.1 ∧ w.2.1 ≤ j ∧ j ≤ w.2.2) := by
  unfold ck_cw at h
  split at h
  · rename_i e
    rcases List.mem_append.mp h with h | h
    · split at h
      · have h1 : q = (p.1, p.2.1, w.2.1 - 1, p.2.2.2) := by simpa using h
        subst h1
        refine ⟨rfl, rfl, fun j h2 h3 => ?_⟩
        dsimp only at h2 h3
        exact ⟨⟨h2, by omega⟩, by omega⟩
      · cases h
    · split at h
      · have h1 : q = (p.1, w.2.2 + 1, p.2.2.1, p.2.2.2) := by simpa using h
        subst h1
        refine ⟨rfl, rfl, fun j h2 h3 => ?_⟩
        dsimp only at h2 h3
        exact ⟨⟨by omega, h3⟩, by omega⟩
      · cases h
  · rename_i e
    have h1 : q = p := by simpa using h
    subst h1
    refine ⟨rfl, rfl, fun j h2 h3 => ⟨⟨h2, h3⟩, ?_⟩⟩
    rintro ⟨h4, h5, h6⟩
    exact e ⟨h4.symm, by omega, by omega⟩
theorem ck_cws_s : ∀ {ws : List (Nat × Int × Int)} {l : List (Nat × Int × Int × ck_I)} {q : Nat × Int × Int × ck_I}, q ∈ ck_cws ws l → ∃ p ∈ l, q.1 = p.1 ∧ q.2.2.2 = p.2.2.2 ∧ ∀ j, q.2.1 ≤ j → j ≤ q.2.2.1 → (p.2.1 ≤ j ∧ j ≤ p.2.2.1) ∧ ∀ w ∈ ws, ¬ (w.1 = p.1 ∧ w.2.1 ≤ j ∧ j ≤ w.2.2) := by
  intro ws
  induction ws with
  | nil => intro l q h; exact ⟨q, h, rfl, rfl, fun j h1 h2 => ⟨⟨h1, h2⟩, fun w hw => nomatch hw⟩⟩
  | cons w ws ih =>
    intro l q h
    obtain ⟨p, hp, h1, h2, h3⟩ := ih h
    rw [fl_cw_eq] at hp
    obtain ⟨r, hr, hp2⟩ := List.mem_flatMap.mp hp
    obtain ⟨h4, h5, h6⟩ := ck_cw_s hp2
    refine ⟨r, hr, h1.trans h4, h2.trans h5, fun j h7 h8 => ?_⟩
    obtain ⟨h9, h10⟩ := h3 j h7 h8
    obtain ⟨h11, h12⟩ := h6 j h9.1 h9.2
    refine ⟨h11, fun v hv => ?_⟩
    rcases List.mem_cons.mp hv with rfl | hv
    · exact h12
    · rw [← h4]; exact h10 v hv
/-- behind a call -/
theorem ck_mix_s {W : List (Nat × Int × Int) × List (Nat × Int)} {G : ck_F} {n' : Nat} {K' : gm_K} {R' : gm_R} {M' : gm_M} (h : ck_gf σ F n K R M) (hg : ck_gf σ G n' K' R' M') (hf : ck_fr W n K R M n' K' R' M') : ck_gf σ (ck_mix n F W G) n' K' R' M' := by
  refine ⟨fun q hq => ?_, fun q hq => ?_, fun q hq => ?_⟩
  · rcases List.mem_append.mp hq with hq | hq
    · exact hg.1 q hq
    · have h1 := h.1 q hq
      exact ⟨⟨h1.1.1, Nat.le_trans h1.1.2 hf.1⟩, by rw [hf.2.1 q.1 h1.1.2]; exact h1.2⟩
  · rcases List.mem_append.mp hq with hq | hq
    · exact hg.2.1 q hq
    · obtain ⟨h1, h2⟩ := List.mem_filter.mp hq
      have h3 := h.2.1 q h1
      simp only [Bool.and_eq_true, decide_eq_true_eq, Bool.not_eq_true', List.any_eq_false, beq_iff_eq] at h2
      refine ⟨Nat.le_trans h3.1 hf.1, ?_⟩
      rw [hf.2.2.2 q.1 q.2.1 h3.1 (fun h9 => h2.2 _ h9 ⟨rfl, rfl⟩)]
      exact h3.2
  · rcases List.mem_append.mp hq with hq | hq
    · exact hg.2.2 q hq
    · obtain ⟨p, hp, h1, h2, h3⟩ := ck_cws_s hq
      have h4 := h.2.2 p hp
      rw [h1, h2]
      refine ⟨Nat.le_trans h4.1 hf.1, fun j h5 h6 => ?_⟩
      obtain ⟨h7, h8⟩ := h3 j h5 h6
      rw [hf.2.2.1 p.1 j h4.1 h8]
      exact h4.2 j h7.1 h7.2
theorem ck_fr_tr {V W : List (Nat × Int × Int) × List (Nat × Int)} {n0 n' : Nat} {K0 K' : gm_K} {R0 R' : gm_R} {M0 M' : gm_M} (h : ck_fr W n0 K0 R0 M0 n K R M) (h2 : ck_fr V n K R M n' K' R' M') (hw : V.1.all (fun w => ck_okW W.1 n0 w.1 w.2.1 w.2.2) = true) (hr : V.2.all (fun w => ck_okR W.2 n0 w.1 w.2) = true) : ck_fr W n0 K0 R0 M0 n' K' R' M' := by
  refine ⟨Nat.le_trans h.1 h2.1, fun a ha => ?_, fun a b ha hb => ?_, fun a b ha hb => ?_⟩
  · rw [h2.2.1 a (Nat.le_trans ha h.1)]; exact h.2.1 a ha
  · rw [h2.2.2.1 a b (Nat.le_trans ha h.1)]
    · exact h.2.2.1 a b ha hb
    · intro w hw1 h9
      have h3 := List.all_eq_true.mp hw w hw1
      rw [ck_okW_def] at h3
      simp only [Bool.or_eq_true, decide_eq_true_eq, List.any_eq_true, Bool.and_eq_true, beq_iff_eq] at h3
      obtain ⟨rfl, h10, h11⟩ := h9
      rcases h3 with h3 | ⟨u, hu1, hu2, hu3, hu4⟩
      · omega
      · exact hb u hu1 ⟨hu2, Int.le_trans hu3 h10, Int.le_trans h11 hu4⟩
  · rw [h2.2.2.2 a b (Nat.le_trans ha h.1)]
    · exact h.2.2.2 a b ha hb
    · intro h9
      have h3 := List.all_eq_true.mp hr _ h9
      rw [ck_okR_def] at h3
      simp only [Bool.or_eq_true, decide_eq_true_eq, List.any_eq_true, Bool.and_eq_true, beq_iff_eq] at h3
      rcases h3 with h3 | ⟨u, hu1, rfl, rfl⟩
      · omega
      · exact hb hu1
theorem ck_ltg_s {w : ck_I} {x y z : Int} {t : List (Nat × Int)} (hw : ck_gi σ w y) (h : ck_gt σ t x) : ck_gt σ (ck_ltg w z t) (x + (y + z)) := by
  unfold ck_ltg
  cases hg : ck_sg w with
  | true =>
    show ck_gt σ (ck_mv t (w.1 + z)) _
    rw [ck_sg_s hw hg]
    exact ck_mv_s h
  | false =>
    intro q hq
    have hq : q ∈ t.map fun q => (if q.1 < 1000000 then q.1 + 1000000 else q.1, q.2 + (w.1 + z)) := hq
    obtain ⟨p, hp, rfl⟩ := List.mem_map.mp hq
    have h1 := h p hp
    have h2 := hw.1
    unfold ck_g1 at h1 ⊢
    dsimp only
    split
    · rename_i e
      have h3 := h1.1 e
      refine ⟨fun h4 => by omega, fun _ => ?_⟩
      rw [Nat.add_sub_cancel]
      omega
    · rename_i e
      have h3 := h1.2 (by omega)
      exact ⟨fun h4 => absurd h4 e, fun _ => by omega⟩
theorem ck_lks_s {s : ck_S} {x : Int} (hF : gm_Fx O n K R M) (hs : ck_gr L M s (gm_vi x)) : ck_gr L M (ck_lks O s) (gm_vi x) := by
  unfold ck_lks
  cases hg : O.2.2.gh with
  | none => exact hs
  | some g =>
    dsimp only
    split
    · rename_i q
      cases hc : (q.1 == g.1 && (q.2.2.1 == g.1 && (decide (q.2.1 = g.2.1) && decide (q.2.2.2.1 = g.2.2)))) with
      | false => exact hs
      | true =>
        simp only [Bool.and_eq_true, beq_iff_eq, decide_eq_true_eq] at hc
        obtain ⟨h1, h2, h3, h4⟩ := hc
        have h5 : gm_vi x = gm_vi (M q.1 q.2.1 - M q.2.2.1 q.2.2.2.1 + q.2.2.2.2) := hs
        have h6 := ((O.2.2.hG g hg).1 K M hF.2.2.2.2).1
        rw [h1, h2, h3, h4, ← h6] at h5
        exact h5
    · exact hs
theorem ck_lkp_s {s t : ck_S} {x y : Int} {w : ck_I} (hF : gm_Fx O n K R M) (hf : ck_gf σ F n K R M) (hs : ck_gr L M s (gm_vi x)) (ht : ck_gr L M t (gm_vi y)) (h : ck_lkp O F s t = some w) : gm_ir (x - y) ∧ ck_gi σ w (x - y) ∧ ck_gr L M (some (.inr (.inl (0, 4, 0)))) (gm_vi (x - y)) := by
  unfold ck_lkp at h
  cases hg : O.2.2.gh with
  | none => rw [hg] at h; cases h
  | some g =>
    rw [hg] at h
    dsimp only at h
    split at h
    · rename_i p q
      cases hc : ((p.1 == g.1 && (q.1 == g.1 && (decide (p.2.1 = g.2.1) && decide (q.2.1 = g.2.2)))) && (decide (p.2.2 = 0) && decide (q.2.2 = 0))) with
      | false => rw [hc] at h; cases h
      | true =>
        rw [hc] at h
        simp only [Bool.and_eq_true, beq_iff_eq, decide_eq_true_eq] at hc
        obtain ⟨⟨h1, h2, h3, h4⟩, h5, h6⟩ := hc
        have h7 : gm_vi x = gm_vi (M p.1 p.2.1 + p.2.2) := hs
        have h8 : gm_vi y = gm_vi (M q.1 q.2.1 + q.2.2) := ht
        have h9 : x = M p.1 p.2.1 + p.2.2 := by cases h7; rfl
        have h10 : y = M q.1 q.2.1 + q.2.2 := by cases h8; rfl
        have h11 := ((O.2.2.hG g hg).1 K M hF.2.2.2.2).1
        rw [h1, h3, h5] at h9
        rw [h2, h4, h6] at h10
        have h12 : x - y = M 0 4 := by omega
        have h13 := (ck_fi_s hf (show ck_fi F 0 4 4 = some w from h)).2 4 (Int.le_refl _) (Int.le_refl _)
        rw [h12]
        refine ⟨h13.1, h13.2, ?_⟩
        show gm_vi (M 0 4) = gm_vi (M 0 4 + 0)
        rw [Int.add_zero]
    · cases h
theorem ck_cm0 {c : ClassFile.Cond} {x y : Int} : gm_cm c x y ↔ gm_cm c (x - y) 0 := by
  cases c <;> simp only [gm_cm] <;> omega
theorem ck_mn_s {x y z : Int} (h1 : z ≤ x) (h2 : z ≤ y) : z ≤ ck_mn x y := by unfold ck_mn; split <;> omega
theorem ck_mx_s {x y z : Int} (h1 : x ≤ z) (h2 : y ≤ z) : ck_mx x y ≤ z := by unfold ck_mx; split <;> omega
theorem ck_gp_s {r : Nat} {j x : Int} {s : ck_S} {a : ck_I} {p : ck_I × ck_I × ck_I} (hF : gm_Fx O n K R M) (hf : ck_gf σ F n K R M) (ha : ck_gi σ a x) (hs : ck_gr L M s (gm_vi x)) (h : ck_gp O F r j s a = some p) : ∃ g, O.2.2.gh = some g ∧ r = g.1 ∧ (j = g.2.1 ∨ j = g.2.2) ∧ ck_gi σ p.1 (gm_uM M r j x g.1 g.2.1 - gm_uM M r j x g.1 g.2.2) ∧ ck_gi σ p.2.1 (M 0 3 + (gm_uM M r j x g.1 g.2.2 - M g.1 g.2.2)) ∧ ck_gi σ p.2.2 (M 0 3 + (gm_uM M r j x g.1 g.2.2 - M g.1 g.2.2) + (gm_uM M r j x g.1 g.2.1 - gm_uM M r j x g.1 g.2.2)) := by
  unfold ck_gp at h
  cases hg : O.2.2.gh with
  | none => rw [hg] at h; cases h
  | some g =>
    rw [hg] at h
    dsimp only at h
    split at h
    · rename_i q
      cases hc : (r == g.1 && q.1 == g.1) with
      | false => rw [hc] at h; cases h
      | true =>
        rw [hc] at h
        simp only [Bool.and_eq_true, beq_iff_eq] at hc
        obtain ⟨h1, h2⟩ := hc
        subst h1
        have h3 : gm_vi x = gm_vi (M q.1 q.2.1 + q.2.2) := hs
        have h4 : x = M q.1 q.2.1 + q.2.2 := by cases h3; rfl
        rw [h2] at h4
        obtain ⟨h5, ⟨h6, h7⟩, -⟩ := O.2.2.hG g hg
        obtain ⟨h8, h81, h82⟩ := h5 K M hF.2.2.2.2
        have ha2 := ha.2.1
        cases hw : ck_fi F 0 4 4 with
        | none => rw [hw] at h; cases h
        | some w =>
          cases he : ck_fi F 0 3 3 with
          | none => rw [hw, he] at h; cases h
          | some e =>
            cases hf5 : ck_fi F 0 5 5 with
            | none => rw [hw, he, hf5] at h; cases h
            | some f =>
              cases ht : gm_tyr O g.1 g.2.2 g.2.2 with
              | none => rw [hw, he, hf5, ht] at h; cases h
              | some t =>
                rw [hw, he, hf5, ht] at h
                have h9 := ((ck_fi_s hf hw).2 4 (Int.le_refl _) (Int.le_refl _)).2
                have h10 := ((ck_fi_s hf he).2 3 (Int.le_refl _) (Int.le_refl _)).2
                have h11 := ((ck_fi_s hf hf5).2 5 (Int.le_refl _) (Int.le_refl _)).2
                have h12 := ((gm_tyr_s hF ht).2 g.2.2 (Int.le_refl _) (Int.le_refl _)).2.1
                have h : (if j = g.2.1 then (if q.2.1 = g.2.1 then some ((w.1 + q.2.2, ck_mn (w.2.1 + q.2.2) (a.2.1 - t.1), ck_mv w.2.2 q.2.2), e, (f.1 + q.2.2, ck_mn (f.2.1 + q.2.2) a.2.1, ck_mv f.2.2 q.2.2)) else if q.2.1 = g.2.2 then some (ck_one q.2.2, e, (e.1 + q.2.2, ck_mn (e.2.1 + q.2.2) a.2.1, ck_mv e.2.2 q.2.2)) else none) else if j = g.2.2 then (if q.2.1 = g.2.1 then some (ck_one (- q.2.2), (f.1 + q.2.2, ck_mn (f.2.1 + q.2.2) a.2.1, ck_mv f.2.2 q.2.2), f) else none) else none) = some p := h
                have u1 : ∀ i, gm_uM M g.1 j x g.1 i = if i = j then x else M g.1 i := by
                  intro i
                  unfold gm_uM
                  by_cases e9 : i = j
                  · rw [if_pos ⟨rfl, e9⟩, if_pos e9]
                  · rw [if_neg (fun e8 => e9 e8.2), if_neg e9]
                have k9 := h9.1
                have k92 := h9.2.1
                have k10 := h10.1
                have k102 := h10.2.1
                have k11 := h11.1
                have k112 := h11.2.1
                refine ⟨g, rfl, rfl, ?_⟩
                rw [u1, u1]
                by_cases e1 : j = g.2.1
                · rw [if_pos e1] at h
                  rw [if_pos e1.symm, if_neg (fun e9 => h7 (e1.symm.trans e9.symm))]
                  by_cases e2 : q.2.1 = g.2.1
                  · rw [if_pos e2] at h
                    rw [e2] at h4
                    cases h
                    have e3 : x - M g.1 g.2.2 = M 0 4 + q.2.2 := by omega
                    have e4 : M 0 3 + (M g.1 g.2.2 - M g.1 g.2.2) = M 0 3 := by omega
                    have e5 : M 0 3 + (M 0 4 + q.2.2) = M 0 5 + q.2.2 := by omega
                    have e6 : M 0 4 + q.2.2 ≤ a.2.1 - t.1 := by omega
                    have e7 : M 0 5 + q.2.2 ≤ a.2.1 := by omega
                    rw [e3, e4, e5]
                    exact ⟨Or.inl e1, ⟨Int.add_le_add_right h9.1 _, ck_mn_s (Int.add_le_add_right h9.2.1 _) e6, ck_mv_s h9.2.2⟩, h10, ⟨Int.add_le_add_right h11.1 _, ck_mn_s (Int.add_le_add_right h11.2.1 _) e7, ck_mv_s h11.2.2⟩⟩
                  · rw [if_neg e2] at h
                    by_cases e2 : q.2.1 = g.2.2
                    · rw [if_pos e2] at h
                      rw [e2] at h4
                      cases h
                      have e3 : x - M g.1 g.2.2 = q.2.2 := by omega
                      have e4 : M 0 3 + (M g.1 g.2.2 - M g.1 g.2.2) = M 0 3 := by omega
                      have e7 : M 0 3 + q.2.2 ≤ a.2.1 := by omega
                      rw [e3, e4]
                      exact ⟨Or.inl e1, ck_one_s _, h10, ⟨Int.add_le_add_right h10.1 _, ck_mn_s (Int.add_le_add_right h10.2.1 _) e7, ck_mv_s h10.2.2⟩⟩
                    · rw [if_neg e2] at h
                      cases h
                · rw [if_neg e1] at h
                  by_cases e0 : j = g.2.2
                  · rw [if_pos e0] at h
                    rw [if_neg (fun e9 => e1 e9.symm), if_pos e0.symm]
                    by_cases e2 : q.2.1 = g.2.1
                    · rw [if_pos e2] at h
                      rw [e2] at h4
                      cases h
                      have e3 : M g.1 g.2.1 - x = - q.2.2 := by omega
                      have e4 : M 0 3 + (x - M g.1 g.2.2) = M 0 5 + q.2.2 := by omega
                      have e5 : M 0 5 + q.2.2 + - q.2.2 = M 0 5 := by omega
                      have e7 : M 0 5 + q.2.2 ≤ a.2.1 := by omega
                      rw [e3, e4, e5]
                      exact ⟨Or.inr e0, ck_one_s _, ⟨Int.add_le_add_right h11.1 _, ck_mn_s (Int.add_le_add_right h11.2.1 _) e7, ck_mv_s h11.2.2⟩, h11⟩
                    · rw [if_neg e2] at h
                      cases h
                  · rw [if_neg e0] at h
                    cases h
    · cases h
theorem ck_gF_s {r : Nat} {j x : Int} {a : ck_I} {p : ck_I × ck_I × ck_I} {s : ck_S} {W : List (Nat × Int × Int) × List (Nat × Int)} {n0 : Nat} {K0 : gm_K} {R0 : gm_R} {M0 : gm_M} (hF : gm_Fx O n K R M) (hf : ck_gf σ F n K R M) (hfr : ck_fr W n0 K0 R0 M0 n K R M) (hx : gm_ir x) (ha : ck_gi σ a x) (hs : ck_gr L M s (gm_vi x)) (h : ck_gp O F r j s a = some p) (hr : r ≤ n)
    (h1 : (gm_tyv O r j j a.1 a.2.1 = true ∧ (O.2.2.ty 0).isEmpty = true) ∧ (ck_okW W.1 n0 r j j = true ∧ ck_okW W.1 n0 0 4 4 = true ∧ ck_okW W.1 n0 0 3 3 = true ∧ ck_okW W.1 n0 0 5 5 = true) ∧ ck_in p.1 = true ∧ ck_in p.2.1 = true ∧ ck_in p.2.2 = true) :
    ∃ M' : gm_M, (∀ c i, 1 ≤ c → M' c i = gm_uM M r j x c i) ∧ gm_Fx O n K R M' ∧ ck_gf σ (ck_gF F r j a p) n K R M' ∧ ck_fr W n0 K0 R0 M0 n K R M' := by
  obtain ⟨⟨t1, t2⟩, ⟨w1, w2, w3, w4⟩, i1, i2, i3⟩ := h1
  obtain ⟨g, hg, rfl, hj, hw, he, hv⟩ := ck_gp_s hF hf ha hs h
  obtain ⟨-, ⟨h6, h7⟩, h8⟩ := O.2.2.hG g hg
  have hz : ∀ c i, 1 ≤ c → gm_uM (gm_uM (gm_uM (gm_uM M g.1 j x) 0 4 (gm_uM M g.1 j x g.1 g.2.1 - gm_uM M g.1 j x g.1 g.2.2)) 0 3 (M 0 3 + (gm_uM M g.1 j x g.1 g.2.2 - M g.1 g.2.2))) 0 5 (M 0 3 + (gm_uM M g.1 j x g.1 g.2.2 - M g.1 g.2.2) + (gm_uM M g.1 j x g.1 g.2.1 - gm_uM M g.1 j x g.1 g.2.2)) c i = gm_uM M g.1 j x c i := by
    intro c i hc
    generalize gm_uM M g.1 j x = M1
    unfold gm_uM
    rw [if_neg (by omega), if_neg (by omega), if_neg (by omega)]
  refine ⟨_, hz, ?_, ?_, ?_⟩
  · refine gm_Fx_G hF t1 t2 ha.1 ha.2.1 hz (h8 K M _ hF.2.2.2.2 (fun c i e1 e2 => ?_) ?_ ?_ ?_)
    · unfold gm_uM
      rw [if_neg (fun e3 => e2 ⟨e3.1, Or.inr (Or.inr e3.2)⟩), if_neg (fun e3 => e2 ⟨e3.1, Or.inl e3.2⟩), if_neg (fun e3 => e2 ⟨e3.1, Or.inr (Or.inl e3.2)⟩), if_neg (fun e3 => e1 ⟨e3.1, by rcases hj with hj | hj <;> rw [e3.2, hj] <;> simp⟩)]
    · rw [hz _ _ h6, hz _ _ h6]
      generalize gm_uM M g.1 j x = M1
      unfold gm_uM
      rw [if_neg (by omega), if_neg (by omega), if_pos ⟨rfl, rfl⟩]
    · generalize gm_uM M g.1 j x = M1
      unfold gm_uM
      rw [if_pos ⟨rfl, rfl⟩, if_neg (by omega), if_pos ⟨rfl, rfl⟩, if_neg (by omega), if_neg (by omega), if_pos ⟨rfl, rfl⟩]
    · rw [hz _ _ h6]
      generalize gm_uM M g.1 j x = M1
      unfold gm_uM
      rw [if_neg (by omega), if_pos ⟨rfl, rfl⟩]
      omega
  · exact ck_up_s (ck_up_s (ck_up_s (ck_up_s hf hr (Int.le_refl _) (Int.le_refl _) hx ha) (Nat.zero_le _) (Int.le_refl _) (Int.le_refl _) (ck_in_s hw i1) hw) (Nat.zero_le _) (Int.le_refl _) (Int.le_refl _) (ck_in_s he i2) he) (Nat.zero_le _) (Int.le_refl _) (Int.le_refl _) (ck_in_s hv i3) hv
  · exact ck_fr_M (ck_fr_M (ck_fr_M (ck_fr_M hfr w1 (Int.le_refl _) (Int.le_refl _)) w2 (Int.le_refl _) (Int.le_refl _)) w3 (Int.le_refl _) (Int.le_refl _)) w4 (Int.le_refl _) (Int.le_refl _)
theorem ck_rE_s (hF : gm_Fx O n K R M) (hf : ck_gf σ F n K R M) : ck_gf σ (ck_rE O F) n K R M := by
  unfold ck_rE
  cases hg : O.2.2.gh with
  | none => exact hf
  | some g =>
    dsimp only
    split
    · rename_i e w f pp b he hw h5 hp hb
      split
      case isFalse => exact hf
      obtain ⟨h1, -, -⟩ := O.2.2.hG g hg
      obtain ⟨h22, h2, -⟩ := h1 K M hF.2.2.2.2
      have hp9 := ((ck_rd_s hF hf hp).2 g.2.1 (Int.le_refl _) (Int.le_refl _)).2
      obtain ⟨hb8, hb9⟩ := (ck_rd_s hF hf hb).2 g.2.2 (Int.le_refl _) (Int.le_refl _)
      have hp1 := hp9.1
      have hp2 := hp9.2.1
      have h9 := ((ck_fi_s hf hw).2 4 (Int.le_refl _) (Int.le_refl _)).2
      have h10 := ((ck_fi_s hf he).2 3 (Int.le_refl _) (Int.le_refl _)).2
      obtain ⟨h11, h12⟩ := (ck_fi_s hf h5).2 5 (Int.le_refl _) (Int.le_refl _)
      have h13 := h9.1
      have h15 := h9.2.1
      have h14 : M 0 5 = M 0 3 + (M 0 4 + 0) := by omega
      refine ⟨hf.1, hf.2.1, fun q hq => ?_⟩
      rcases List.mem_cons.mp hq with rfl | hq
      · refine ⟨Nat.zero_le _, fun j j1 j2 => ?_⟩
        have j1 : (5 : Int) ≤ j := j1
        have j2 : j ≤ (5 : Int) := j2
        have j3 : j = 5 := by omega
        subst j3
        refine ⟨h11, ck_mx_s h12.1 ?_, ck_mn_s h12.2.1 ?_, fun q hq => ?_⟩
        · have := h10.1
          show e.1 + w.1 ≤ M 0 5
          omega
        · have := h10.2.1
          show M 0 5 ≤ e.2.1 + w.2.1
          omega
        · rcases List.mem_append.mp hq with hq | hq
          · exact h12.2.2 q hq
          · show ck_g1 σ q (M 0 5)
            rw [h14]
            exact ck_ltg_s h9 h10.2.2 q (List.mem_filter.mp hq).1
      rcases List.mem_cons.mp hq with rfl | hq
      · refine ⟨(ck_rd_s hF hf hb).1, fun j j1 j2 => ?_⟩
        have j1 : g.2.2 ≤ j := j1
        have j2 : j ≤ g.2.2 := j2
        have j3 : j = g.2.2 := by omega
        subst j3
        refine ⟨hb8, ck_mx_s hb9.1 ?_, ck_mn_s hb9.2.1 ?_, hb9.2.2⟩
        · show pp.1 - w.2.1 ≤ M g.1 g.2.2
          omega
        · show M g.1 g.2.2 ≤ pp.2.1 - w.1
          omega
      · exact hf.2.2 q hq
    · exact hf
end CF
end
/-! 23.cj -/
section
/-! THE CHECKER: every instruction. -/
noncomputable def ck_ho (σ : Nat → Int) : (Nat ⊕ Option ck_A) → gm_O → Prop
  | .inl x, .inr y => x = y
  | .inr none, .inl none => True
  | .inr (some a), .inl (some v) => ck_ga σ a v
  | _, _ => False
/-- how a method ends that the checker has seen -/
noncomputable abbrev ck_Q (O : gm_Or) (σ : Nat → Int) (W : List (Nat × Int × Int) × List (Nat × Int)) (n0 : Nat) (K0 : gm_K) (R0 : gm_R) (M0 : gm_M) (outs : List ck_Oc) : gm_Q := fun o n K R M => gm_Fx O n K R M ∧ ck_fr W n0 K0 R0 M0 n K R M ∧ ∃ oc ∈ outs, ck_ho σ oc.1 o ∧ n = oc.2.1 ∧ ck_gf σ oc.2.2 n K R M
noncomputable def ck_gas (σ : Nat → Int) : List ck_A → List gm_V → Prop
  | [], vs => vs = []
  | a :: as, vs => ∃ v ws, vs = v :: ws ∧ ck_ga σ a v ∧ ck_gas σ as ws
/-- what is said of a method -/
noncomputable def ck_Ok (O : gm_Or) (X : Int → Int) (LX mj : Nat) (S : ck_Sum) : Prop := ∀ (d : Nat) (σ : Nat → Int) (vs : List gm_V) (n : Nat) (K : gm_K) (R : gm_R) (M : gm_M), S.1.1 ≤ d → n = S.2.1 → ck_gas σ S.2.2.1 vs → (∀ q ∈ O.2.2.nm, σ q.1 = M q.2.1 q.2.2) → gm_Fx O n K R M → ck_gf σ S.2.2.2.1 n K R M → gm_Wp X LX d S.1.2.1 S.1.2.2 mj 0 (gm_ent mj vs) [] n K R M (ck_Q O σ S.2.2.2.2.1 n K R M S.2.2.2.2.2)
noncomputable def ck_OkE (O : gm_Or) (X : Int → Int) (LX : Nat) (E : List (Nat × List ck_Sum)) : Prop := ∀ mj l, E.lookup mj = some l → ∀ S ∈ l, ck_Ok O X LX mj S
noncomputable def ck_OkX (σ : Nat → Int) (X : Int → Int) (XF : List (Int × Int × ck_I)) : Prop := ∀ q ∈ XF, ∀ j, q.1 ≤ j → j ≤ q.2.1 → gm_ir (X j) ∧ ck_gi σ q.2.2 (X j)
/-- a state that the checker knows -/
noncomputable def ck_St (O : gm_Or) (σ : Nat → Int) (W : List (Nat × Int × Int) × List (Nat × Int)) (n0 : Nat) (K0 : gm_K) (R0 : gm_R) (M0 : gm_M) (AL : ck_AL) (AS : ck_AS) (F : ck_F) (L : gm_L) (st : List gm_V) (n : Nat) (K : gm_K) (R : gm_R) (M : gm_M) : Prop := gm_Fx O n K R M ∧ ck_gl σ AL L ∧ ck_gs σ L M AS st ∧ ck_gf σ F n K R M ∧ ck_fr W n0 K0 R0 M0 n K R M
section CJ
variable {O : gm_Or} {X : Int → Int} {LX : Nat} {XF : List (Int × Int × ck_I)} {E : List (Nat × List ck_Sum)} {mi d n0 : Nat} {W : List (Nat × Int × Int) × List (Nat × Int)} {outs : List ck_Oc} {bc bs pc : Nat} {L : gm_L} {st : List gm_V} {n : Nat} {K : gm_K} {R : gm_R} {M : gm_M} {AL : ck_AL} {AS : ck_AS} {F : ck_F} {σ σ0 : Nat → Int} {K0 : gm_K} {R0 : gm_R} {M0 : gm_M} {Q : gm_Q}
theorem ck_w6 (x : Int) : Int64.ofInt (gm_w6 x) = Int64.ofInt x := by
  apply Int64.toInt_inj.mp
  rw [gm_w6_toInt, gm_w6_toInt]
  unfold gm_w6
  omega
/-- an int may be taken round -/
theorem ck_nv {x : Int} (h : gm_Wp X LX d bc bs mi pc L (gm_vi (gm_w x) :: st) n K R M Q) : gm_Wp X LX d bc bs mi pc L (gm_vi x :: st) n K R M Q := by
  intro p l e Rm s m args below meth c D ti adK adV A α0 n0 mc ms h1 h2 h3 h4 h5 h6 h7 α H locs cells slots ls sv h8 h9 h10 h11 h12 h13
  refine h p l e Rm s m args below meth c D ti adK adV A α0 n0 mc ms h1 h2 h3 h4 h5 h6 h7 α H locs cells slots ls sv h8 h9 h10 h11 h12 ?_
  obtain ⟨w, ws, rfl, h14, h15⟩ := h13
  refine ⟨w, ws, rfl, ?_, h15⟩
  show w = .int (Int32.ofInt (gm_w x))
  rw [gm_w_of]
  exact h14
theorem ck_nvL {j : Nat} {x : Int} (h : gm_Wp X LX d bc bs mi pc (gm_lst L j (gm_vi (gm_w x))) st n K R M Q) : gm_Wp X LX d bc bs mi pc (gm_lst L j (gm_vi x)) st n K R M Q := by
  intro p l e Rm s m args below meth c D ti adK adV A α0 n0 mc ms h1 h2 h3 h4 h5 h6 h7 α H locs cells slots ls sv h8 h9 h10 h11 h12 h13
  refine h p l e Rm s m args below meth c D ti adK adV A α0 n0 mc ms h1 h2 h3 h4 h5 h6 h7 α H locs cells slots ls sv h8 h9 h10 h11 ?_ h13
  obtain ⟨g1, l1, g2, g3⟩ := h12
  have e0 : ∀ y : Int, gm_lst L j (gm_vi y) = (gm_lc L j).set j (some (gm_vi y)) := fun _ => rfl
  rw [e0] at g1
  refine ⟨by rw [e0]; simpa using g1, l1, g2, fun i v hi => ?_⟩
  rw [e0, List.getElem?_set] at hi
  by_cases e : j = i
  · rw [if_pos e] at hi
    split at hi
    · rename_i e2
      cases hi
      obtain ⟨w, k1, k2⟩ := g3 i (gm_vi x) (by rw [e0, List.getElem?_set, if_pos e, if_pos e2])
      refine ⟨w, ?_, k2⟩
      show w = .int (Int32.ofInt (gm_w x))
      rw [gm_w_of]
      exact k1
    · cases hi
  · rw [if_neg e] at hi
    exact g3 i v (by rw [e0, List.getElem?_set, if_neg e]; exact hi)
theorem ck_nv6 {x : Int} (h : gm_Wp X LX d bc bs mi pc L (gm_vl (gm_w6 x) :: st) n K R M Q) : gm_Wp X LX d bc bs mi pc L (gm_vl x :: st) n K R M Q := by
  intro p l e Rm s m args below meth c D ti adK adV A α0 n0 mc ms h1 h2 h3 h4 h5 h6 h7 α H locs cells slots ls sv h8 h9 h10 h11 h12 h13
  refine h p l e Rm s m args below meth c D ti adK adV A α0 n0 mc ms h1 h2 h3 h4 h5 h6 h7 α H locs cells slots ls sv h8 h9 h10 h11 h12 ?_
  obtain ⟨w, ws, rfl, h14, h15⟩ := h13
  refine ⟨w, ws, rfl, ?_, h15⟩
  show w = .long (Int64.ofInt (gm_w6 x))
  rw [ck_w6]
  exact h14
theorem ck_r6_w (x : Int) : ck_r6 (gm_w6 x) := by unfold ck_r6 gm_w6; omega
theorem ck_tp6_s {x : Int} (h : ck_r6 x) : ck_gi σ ck_tp6 x := ⟨h.1, Int.le_of_lt_add_one h.2, ck_gt_none⟩
theorem ck_r6_i {x : Int} (h : gm_ir x) : ck_r6 x := by unfold gm_ir at h; unfold ck_r6; omega
theorem ck_pi {x : Int} {a : ck_I} {s : ck_S} (hx : gm_ir x) (ha : ck_gi σ a x) (hs : ck_gr L M s (gm_vi x)) (h : ck_gs σ L M AS st) : ck_gs σ L M ((.inl a, s) :: AS) (gm_vi x :: st) := ⟨_, _, rfl, ⟨⟨x, rfl, hx, ha⟩, hs⟩, h⟩
theorem ck_pl {x : Int} {a : ck_I} (hx : ck_r6 x) (ha : ck_gi σ a x) (h : ck_gs σ L M AS st) : ck_gs σ L M ((.inr (.inl a), none) :: AS) (gm_vl x :: st) := ⟨_, _, rfl, ⟨⟨x, rfl, hx, ha⟩, trivial⟩, h⟩
theorem ck_pr {k : Nat} (h : ck_gs σ L M AS st) : ck_gs σ L M ((.inr (.inr (.inl k)), none) :: AS) (gm_vr k :: st) := ⟨_, _, rfl, ⟨rfl, trivial⟩, h⟩
theorem ck_po {k : Nat} (h : ck_gs σ L M AS st) : ck_gs σ L M ((.inr (.inr (.inr k)), none) :: AS) (gm_vo k :: st) := ⟨_, _, rfl, ⟨rfl, trivial⟩, h⟩
theorem ck_qi {a : ck_I} {s : ck_S} (h : ck_gs σ L M ((.inl a, s) :: AS) st) : ∃ x st', st = gm_vi x :: st' ∧ gm_ir x ∧ ck_gi σ a x ∧ ck_gr L M s (gm_vi x) ∧ ck_gs σ L M AS st' := by
  obtain ⟨v, vs, rfl, ⟨⟨x, rfl, h1, h2⟩, h3⟩, h4⟩ := h
  exact ⟨x, vs, rfl, h1, h2, h3, h4⟩
theorem ck_ql {a : ck_I} {s : ck_S} (h : ck_gs σ L M ((.inr (.inl a), s) :: AS) st) : ∃ x st', st = gm_vl x :: st' ∧ ck_r6 x ∧ ck_gi σ a x ∧ ck_gs σ L M AS st' := by
  obtain ⟨v, vs, rfl, ⟨⟨x, rfl, h1, h2⟩, h3⟩, h4⟩ := h
  exact ⟨x, vs, rfl, h1, h2, h4⟩
theorem ck_qr {k : Nat} {s : ck_S} (h : ck_gs σ L M ((.inr (.inr (.inl k)), s) :: AS) st) : ∃ st', st = gm_vr k :: st' ∧ ck_gs σ L M AS st' := by
  obtain ⟨v, vs, rfl, ⟨rfl, h3⟩, h4⟩ := h
  exact ⟨vs, rfl, h4⟩
theorem ck_qo {k : Nat} {s : ck_S} (h : ck_gs σ L M ((.inr (.inr (.inr k)), s) :: AS) st) : ∃ st', st = gm_vo k :: st' ∧ ck_gs σ L M AS st' := by
  obtain ⟨v, vs, rfl, ⟨rfl, h3⟩, h4⟩ := h
  exact ⟨vs, rfl, h4⟩
theorem ck_q1 {q : ck_A × ck_S} (h : ck_gs σ L M (q :: AS) st) : ∃ v st', st = v :: st' ∧ gm_sort v = ck_so q.1 ∧ (ck_ga σ q.1 v ∧ ck_gr L M q.2 v) ∧ ck_gs σ L M AS st' := by
  obtain ⟨v, vs, rfl, h3, h4⟩ := h
  exact ⟨v, vs, rfl, ck_so_s h3.1, h3, h4⟩
theorem ck_cvk_i {v : Int} (h : ck_cvk (gm_vi v) = true) : gm_ir v := by
  simp only [ck_cvk, Bool.and_eq_true, decide_eq_true_eq] at h
  exact h
theorem ck_cvk_l {v : Int} (h : ck_cvk (gm_vl v) = true) : ck_r6 v := by
  simp only [ck_cvk, Bool.and_eq_true, decide_eq_true_eq] at h
  exact h
theorem ck_cv_s {v : gm_V} (h : ck_cvk v = true) : ck_ga σ (ck_cv v) v := by
  rcases v with x | x | k | k
  · exact ⟨x, rfl, ck_cvk_i h, ck_one_s x⟩
  · exact ⟨x, rfl, ck_cvk_l h, ck_one_s x⟩
  · rfl
  · rfl
noncomputable abbrev ck_On (O : gm_Or) (X : Int → Int) (LX : Nat) (σ : Nat → Int) (mi d : Nat) (W : List (Nat × Int × Int) × List (Nat × Int)) (n0 : Nat) (K0 : gm_K) (R0 : gm_R) (M0 : gm_M) (Q : gm_Q) (k : Nat → Nat → Nat → ck_AL → ck_AS → Nat → ck_F → Bool) : Prop := ∀ bc bs pc AL AS n F L st K R M, k bc bs pc AL AS n F = true → ck_St O σ W n0 K0 R0 M0 AL AS F L st n K R M → gm_Wp X LX d bc bs mi pc L st n K R M Q
variable {k : Nat → Nat → Nat → ck_AL → ck_AS → Nat → ck_F → Bool}
/-- a branch is taken or not -/
theorem ck_br_s {c : ClassFile.Cond} {a b : ck_I} {s t : ck_S} {x y : Int} {P : Prop} {g : ck_AL → ck_F → Bool} (hS : ck_St O σ W n0 K0 R0 M0 AL AS F L st n K R M) (hx : gm_ir x) (ha : ck_gi σ a x) (hs : ck_gr L M s (gm_vi x)) (hy : gm_ir y) (hb : ck_gi σ b y) (ht : ck_gr L M t (gm_vi y)) (hc : gm_cm c x y) (h : ck_br c a s b t AL F g = true) (hg : ∀ AL F, g AL F = true → ck_St O σ W n0 K0 R0 M0 AL AS F L st n K R M → P) : P := by
  have h1 := ck_rf_s ha hb hc
  have h2 := ck_rf_s hb ha (ck_sw_s hc)
  unfold ck_br at h
  rw [if_neg (by rw [ck_no_s h1, ck_no_s h2]; decide)] at h
  obtain ⟨f1, f2, f3, f4, f5⟩ := hS
  exact hg _ _ h ⟨f1, ck_qL_s ⟨h2.1, h2.2.1⟩ hb (ck_qL_s ⟨h1.1, h1.2.1⟩ ha (ck_rL_s (ck_rL_s f2 hs hx h1) ht hy h2)), f3, ck_qF_s ⟨h2.1, h2.2.1⟩ hb (ck_qF_s ⟨h1.1, h1.2.1⟩ ha (ck_rF_s (ck_rF_s f4 hs hx h1) ht hy h2)), f5⟩
theorem ck_tI_s {a : ck_I} {x : Int} (hs : ∀ s, s < 100 → σ s = σ0 s) (h : ck_tI a = true) (ha : ck_gi σ a x) : ck_gi σ0 a x := by
  refine ⟨ha.1, ha.2.1, fun q hq => ?_⟩
  have h1 := ha.2.2 q hq
  have h := List.all_eq_true.mp (ck_tI_def.symm.trans h) q hq
  simp only [Bool.or_eq_true, Bool.and_eq_true, decide_eq_true_eq] at h
  refine ⟨fun e => ?_, fun e => ?_⟩
  · rw [← hs q.1 (by omega)]
    exact h1.1 e
  · rw [← hs (q.1 - 1000000) (by omega)]
    exact h1.2 e
theorem ck_tA_s {a : ck_A} {v : gm_V} (hs : ∀ s, s < 100 → σ s = σ0 s) (h : ck_tA a = true) (ha : ck_ga σ a v) : ck_ga σ0 a v := by
  rcases a with a | a | k | k
  · obtain ⟨x, rfl, h1, h2⟩ := ha
    exact ⟨x, rfl, h1, ck_tI_s hs h h2⟩
  · obtain ⟨x, rfl, h1, h2⟩ := ha
    exact ⟨x, rfl, h1, ck_tI_s hs h h2⟩
  · exact ha
  · exact ha
theorem ck_tF_s (hs : ∀ s, s < 100 → σ s = σ0 s) (h : ck_tF F = true) (ha : ck_gf σ F n K R M) : ck_gf σ0 F n K R M := by
  refine ⟨ha.1, ha.2.1, fun q hq => ⟨(ha.2.2 q hq).1, fun j h1 h2 => ?_⟩⟩
  have h3 := (ha.2.2 q hq).2 j h1 h2
  exact ⟨h3.1, ck_tI_s hs (List.all_eq_true.mp (ck_tF_def.symm.trans h) q hq) h3.2⟩
theorem ck_end_s {how : Nat ⊕ Option ck_A} {o : gm_O} (hs : ∀ s, s < 100 → σ s = σ0 s) (hF : gm_Fx O n K R M) (hf : ck_gf σ F n K R M) (hfr : ck_fr W n0 K0 R0 M0 n K R M) (ho : ck_ho σ how o) (h : ck_end O outs how n F = true) : ck_Q O σ0 W n0 K0 R0 M0 outs o n K R M := by
  rw [ck_end_def] at h
  obtain ⟨oc, h1, h2⟩ := List.any_eq_true.mp h
  simp only [Bool.and_eq_true, beq_iff_eq] at h2
  obtain ⟨h3, h4, h5, h6⟩ := h2
  refine ⟨hF, hfr, oc, h1, ?_, h4, ck_tF_s hs h6 (ck_leF_s hF hf h5)⟩
  obtain ⟨o1, o2⟩ := oc
  dsimp only at h3 ⊢
  rcases how with x | _ | a <;> rcases o1 with y | _ | b
  · have : x = y := by simpa [ck_leO] using h3
    subst this
    rcases o with u | z
    · cases u <;> exact ho
    · exact ho
  · cases h3
  · cases h3
  · cases h3
  · rcases o with (_ | v) | z
    · exact trivial
    · exact ho.elim
    · exact ho.elim
  · cases h3
  · cases h3
  · cases h3
  · simp only [ck_leO, Bool.and_eq_true] at h3
    rcases o with u | z
    · cases u with
      | none => exact ho.elim
      | some v => exact ck_tA_s hs h3.2 (ck_leA_s h3.1 ho)
    · exact ho.elim
theorem ck_gas_s : ∀ {as bs : List ck_A} {vs : List gm_V}, ck_leAs as bs = true → ck_gas σ as vs → ck_gas σ bs vs := by
  intro as
  induction as with
  | nil =>
    intro bs vs h hv
    cases bs with
    | nil => exact hv
    | cons b bs => cases h
  | cons a as ih =>
    intro bs vs h hv
    cases bs with
    | nil => cases h
    | cons b bs =>
      obtain ⟨v, ws, rfl, h1, h2⟩ := hv
      have h3 : (ck_leA a b && ck_leAs as bs) = true := h
      rw [Bool.and_eq_true] at h3
      exact ⟨v, ws, rfl, ck_leA_s h3.1 h1, ih h3.2 h2⟩
/-- the arguments of a call, out of the stack -/
theorem ck_gas_app : ∀ {as bs : List ck_A} {vs ws : List gm_V}, ck_gas σ as vs → ck_gas σ bs ws → ck_gas σ (as ++ bs) (vs ++ ws) := by
  intro as
  induction as with
  | nil => intro bs vs ws h1 h2; cases h1; exact h2
  | cons a as ih =>
    intro bs vs ws h1 h2
    obtain ⟨v, us, rfl, h3, h4⟩ := h1
    exact ⟨v, us ++ ws, rfl, h3, ih h4 h2⟩
theorem ck_take : ∀ {m : Nat} {AS : ck_AS} {st : List gm_V}, ck_gs σ L M AS st → (st.take m).length = (AS.take m).length ∧ ck_gas σ ((AS.take m).reverse.map Prod.fst) (st.take m).reverse ∧ (ck_n1 (AS.take m) = true → ∀ v ∈ (st.take m).reverse, ¬ gm_sort v = 1) ∧ ck_gs σ L M (AS.drop m) (st.drop m) := by
  intro m
  induction m with
  | zero => intro AS st h; exact ⟨rfl, rfl, fun _ v hv => (nomatch hv), h⟩
  | succ m ih =>
    intro AS st h
    cases AS with
    | nil => cases h; exact ⟨rfl, rfl, fun _ v hv => (nomatch hv), rfl⟩
    | cons a AS =>
      obtain ⟨v, vs, rfl, h1, h2⟩ := h
      obtain ⟨i1, i2, i3, i4⟩ := ih h2
      refine ⟨by simp only [List.take_succ_cons, List.length_cons]; rw [i1], ?_, ?_, i4⟩
      · simp only [List.take_succ_cons, List.reverse_cons, List.map_append, List.map_cons, List.map_nil]
        exact ck_gas_app i2 ⟨v, [], rfl, h1.1, rfl⟩
      · intro h3 u hu
        simp only [List.take_succ_cons, List.reverse_cons, List.mem_append, List.mem_singleton] at hu
        simp only [ck_n1, List.take_succ_cons, List.all_cons, Bool.and_eq_true, Bool.not_eq_true', beq_eq_false_iff_ne, ne_eq] at h3
        rcases hu with hu | rfl
        · exact i3 h3.2 u hu
        · rw [ck_so_s h1.1]; exact h3.1
theorem ck_sum_s : ∀ {AS : ck_AS} {st : List gm_V}, ck_gs σ L M AS st → (st.map gm_cat).sum = (AS.map fun q => if ck_so q.1 = 1 then 2 else 1).sum := by
  intro AS
  induction AS with
  | nil => intro st h; cases h; rfl
  | cons a AS ih =>
    intro st h
    obtain ⟨v, vs, rfl, h1, h2⟩ := h
    simp only [List.map_cons, List.sum_cons]
    rw [ih h2]
    unfold gm_cat
    rw [ck_so_s h1.1]
theorem ck_sum8_s (h : ck_gs σ L M AS st) (h8 : ck_sum8 AS = true) : (st.map gm_cat).sum ≤ 8 := by
  rw [ck_sum_s h]
  exact of_decide_eq_true h8
/-- the names as the callee has them -/
noncomputable def ck_sn (O : gm_Or) (σ : Nat → Int) (M : gm_M) (s : Nat) : Int := match O.2.2.nm.find? fun p => p.1 == s with
  | some p => M p.2.1 p.2.2
  | none => σ s
/-- a name stands for one cell -/
noncomputable def ck_nmu (O : gm_Or) : Prop := ∀ q ∈ O.2.2.nm, O.2.2.nm.find? (fun p => p.1 == q.1) = some q
theorem ck_sn_s (hu : ck_nmu O) : ∀ q ∈ O.2.2.nm, ck_sn O σ M q.1 = M q.2.1 q.2.2 := by
  intro q hq
  unfold ck_sn
  rw [hu q hq]
theorem ck_nt_s {σ' : Nat → Int} {a : ck_I} {x : Int} (h : ck_nt a = true) (ha : ck_gi σ a x) : ck_gi σ' a x := ⟨ha.1, ha.2.1, fun q hq => by rw [List.isEmpty_iff.mp h] at hq; cases hq⟩
theorem ck_ntA_s {σ' : Nat → Int} {a : ck_A} {v : gm_V} (h : ck_ntA a = true) (ha : ck_ga σ a v) : ck_ga σ' a v := by
  rcases a with a | a | k | k
  · obtain ⟨x, h1, h2, h3⟩ := ha; exact ⟨x, h1, h2, ck_nt_s h h3⟩
  · obtain ⟨x, h1, h2, h3⟩ := ha; exact ⟨x, h1, h2, ck_nt_s h h3⟩
  · exact ha
  · exact ha
theorem ck_ntAs_s {σ' : Nat → Int} : ∀ {as : List ck_A} {vs : List gm_V}, as.all ck_ntA = true → ck_gas σ as vs → ck_gas σ' as vs := by
  intro as
  induction as with
  | nil => intro vs _ h; exact h
  | cons a as ih =>
    intro vs h hv
    obtain ⟨v, ws, rfl, h1, h2⟩ := hv
    rw [List.all_cons, Bool.and_eq_true] at h
    exact ⟨v, ws, rfl, ck_ntA_s h.1 h1, ih h.2 h2⟩
theorem ck_own_s {G : ck_F} (h : ck_gf σ (ck_cl G) n K R M) (ho : G.2.2.all (ck_own O) = true) : ck_gf (ck_sn O σ M) G n K R M := by
  refine ⟨h.1, h.2.1, fun q hq => ?_⟩
  have h1 := h.2.2 (q.1, q.2.1, q.2.2.1, (q.2.2.2.1, q.2.2.2.2.1, [])) (List.mem_map.mpr ⟨q, hq, rfl⟩)
  refine ⟨h1.1, fun j h2 h3 => ?_⟩
  have h4 := h1.2 j h2 h3
  refine ⟨h4.1, h4.2.1, h4.2.2.1, fun t ht => ?_⟩
  have h5 := List.all_eq_true.mp (List.all_eq_true.mp ho q hq) t ht
  simp only [Bool.and_eq_true, decide_eq_true_eq] at h5
  obtain ⟨h6, h7, h8, h9⟩ := h5
  refine ⟨fun _ => ?_, fun e => by omega⟩
  unfold ck_sn
  cases hp : O.2.2.nm.find? fun p => p.1 == t.1 with
  | none => rw [hp] at h9; cases h9
  | some p =>
    rw [hp] at h9
    simp only [Bool.and_eq_true, beq_iff_eq, decide_eq_true_eq] at h9
    dsimp only
    have : j = q.2.1 := by omega
    rw [h7, h9.1, h9.2, this]
    omega
theorem ck_r1_s {q t : Nat × Int} {x : Int} (hF : gm_Fx O n K R M) (hf : ck_gf σ F n K R M) (h : ck_g1 (ck_sn O σ M) q x) (ht : t ∈ ck_r1 O F q) : ck_g1 σ t x := by
  unfold ck_r1 at ht
  cases hp : O.2.2.nm.find? fun p => p.1 == (if q.1 < 1000000 then q.1 else q.1 - 1000000) with
  | none => rw [hp] at ht; cases ht
  | some p =>
    rw [hp] at ht
    dsimp only at ht
    cases hb : ck_rd O F p.2.1 p.2.2 p.2.2 with
    | none => rw [hb] at ht; cases ht
    | some b =>
      rw [hb] at ht
      obtain ⟨u, hu, rfl⟩ := List.mem_map.mp ht
      have h1 := ((ck_rd_s hF hf hb).2 p.2.2 (Int.le_refl _) (Int.le_refl _)).2.2.2 u hu
      have h2 : ck_sn O σ M (if q.1 < 1000000 then q.1 else q.1 - 1000000) = M p.2.1 p.2.2 := by
        unfold ck_sn
        rw [hp]
      by_cases e : q.1 < 1000000
      · rw [if_pos e] at h2
        have h3 := h.1 e
        rw [h2] at h3
        simp only [if_pos e]
        exact ⟨fun e2 => by have := h1.1 e2; dsimp only at e2 ⊢; omega, fun e2 => by have := h1.2 e2; dsimp only at e2 ⊢; omega⟩
      · rw [if_neg e] at h2
        have h3 := h.2 (by omega)
        rw [h2] at h3
        simp only [if_neg e]
        by_cases e2 : u.1 < 1000000
        · simp only [if_pos e2]
          have := h1.1 e2
          refine ⟨fun e3 => by dsimp only at e3; omega, fun _ => ?_⟩
          dsimp only
          rw [show u.1 + 1000000 - 1000000 = u.1 by omega]
          omega
        · simp only [if_neg e2]
          have := h1.2 (by omega)
          exact ⟨fun e3 => absurd e3 e2, fun _ => by dsimp only; omega⟩
theorem ck_rlo_s {x : Int} (hF : gm_Fx O n K R M) (hf : ck_gf σ F n K R M) : ∀ (l : List (Nat × Int)) (y : Int), (∀ q ∈ l, ck_g1 (ck_sn O σ M) q x) → y ≤ x → ck_rlo O F l y ≤ x := by
  intro l
  induction l with
  | nil => intro y _ h; exact h
  | cons q l ih =>
    intro y h hy
    refine ih _ (fun p hp => h p (List.mem_cons_of_mem _ hp)) ?_
    have h0 := h q List.mem_cons_self
    cases hp : O.2.2.nm.find? fun p => p.1 == (if q.1 < 1000000 then q.1 else q.1 - 1000000) with
    | none => exact hy
    | some p =>
      dsimp only
      cases hb : ck_rd O F p.2.1 p.2.2 p.2.2 with
      | none => exact hy
      | some b =>
        dsimp only
        have h1 := ((ck_rd_s hF hf hb).2 p.2.2 (Int.le_refl _) (Int.le_refl _)).2.1
        have h2 : ck_sn O σ M (if q.1 < 1000000 then q.1 else q.1 - 1000000) = M p.2.1 p.2.2 := by
          unfold ck_sn
          rw [hp]
        by_cases e : q.1 < 1000000
        · rw [if_pos e] at h2
          have h3 := h0.1 e
          split <;> omega
        · rw [if_neg e] at h2
          have h3 := h0.2 (by omega)
          split <;> omega
theorem ck_rhi_s {x : Int} (hF : gm_Fx O n K R M) (hf : ck_gf σ F n K R M) : ∀ (l : List (Nat × Int)) (y : Int), (∀ q ∈ l, ck_g1 (ck_sn O σ M) q x) → x ≤ y → x ≤ ck_rhi O F l y := by
  intro l
  induction l with
  | nil => intro y _ h; exact h
  | cons q l ih =>
    intro y h hy
    refine ih _ (fun p hp => h p (List.mem_cons_of_mem _ hp)) ?_
    have h0 := h q List.mem_cons_self
    by_cases e : q.1 < 1000000
    · rw [if_pos e]
      cases hp : O.2.2.nm.find? fun p => p.1 == q.1 with
      | none => exact hy
      | some p =>
        dsimp only
        cases hb : ck_rd O F p.2.1 p.2.2 p.2.2 with
        | none => exact hy
        | some b =>
          dsimp only
          have h1 := ((ck_rd_s hF hf hb).2 p.2.2 (Int.le_refl _) (Int.le_refl _)).2.2.1
          have h2 : ck_sn O σ M q.1 = M p.2.1 p.2.2 := by
            unfold ck_sn
            rw [hp]
          have h3 := h0.1 e
          split <;> omega
    · rw [if_neg e]; exact hy
theorem ck_rI_s {a : ck_I} {x : Int} (hF : gm_Fx O n K R M) (hf : ck_gf σ F n K R M) (h : ck_gi (ck_sn O σ M) a x) : ck_gi σ (ck_rI O F a) x := by
  unfold ck_rI
  split
  · rename_i e
    exact ⟨h.1, h.2.1, fun q hq => by rw [e] at hq; cases hq⟩
  · refine ⟨ck_rlo_s hF hf _ _ h.2.2 h.1, ck_rhi_s hF hf _ _ h.2.2 h.2.1, fun t ht => ?_⟩
    obtain ⟨q, hq, ht⟩ := List.mem_flatMap.mp ht
    exact ck_r1_s hF hf (h.2.2 q hq) ht
theorem ck_rA_s {a : ck_A} {v : gm_V} (hF : gm_Fx O n K R M) (hf : ck_gf σ F n K R M) (h : ck_ga (ck_sn O σ M) a v) : ck_ga σ (ck_rA O F a) v := by
  rcases a with a | a | k | k
  · obtain ⟨x, h1, h2, h3⟩ := h; exact ⟨x, h1, h2, ck_rI_s hF hf h3⟩
  · obtain ⟨x, h1, h2, h3⟩ := h; exact ⟨x, h1, h2, ck_rI_s hF hf h3⟩
  · exact h
  · exact h
theorem ck_rG_s {G : ck_F} {n' : Nat} {K' : gm_K} {R' : gm_R} {M' : gm_M} (hF : gm_Fx O n K R M) (hf : ck_gf σ F n K R M) (h : ck_gf (ck_sn O σ M) G n' K' R' M') : ck_gf σ (ck_rG O F G) n' K' R' M' := by
  refine ⟨h.1, h.2.1, fun q hq => ?_⟩
  obtain ⟨p, hp, rfl⟩ := List.mem_map.mp hq
  have h1 := h.2.2 p hp
  exact ⟨h1.1, fun j h2 h3 => ⟨(h1.2 j h2 h3).1, ck_rI_s hF hf (h1.2 j h2 h3).2⟩⟩
/-- behind a call that is known -/
theorem ck_call_s {mj pc' : Nat} {as : List ck_A} {vs : List gm_V} {AS' : ck_AS} {st' : List gm_V} (hs : ∀ s, s < 100 → σ s = σ0 s) (hE : ck_nmu O ∧ ck_OkE O X LX E) (hS : ck_St O σ W n0 K0 R0 M0 AL AS F L st n K R M) (has : ck_gas σ as vs) (hst : ck_gs σ L M AS' st') (hk : ck_On O X LX σ mi d W n0 K0 R0 M0 (ck_Q O σ0 W n0 K0 R0 M0 outs) k)
    (hcall : ∀ d' bc' bs', d' + 1 ≤ d → bc' ≤ bc → bs' ≤ bs → gm_Wp X LX d' bc' bs' mj 0 (gm_ent mj vs) [] n K R M (gm_contH X LX d (bc - bc') (bs - bs') mi pc pc' L st' (ck_Q O σ0 W n0 K0 R0 M0 outs)) → gm_Wp X LX d bc bs mi pc L st n K R M (ck_Q O σ0 W n0 K0 R0 M0 outs))
    (h : ck_call O E d n0 W bc bs n mj F as (fun bc bs how n F => match how with
          | .inl x => ck_thr O outs mi pc x n F (fun h => k bc bs h AL [(.inr (.inr (.inr 4000)), none)] n F)
          | .inr u => k bc bs pc' AL (ck_psh u AS') n F) = true) : gm_Wp X LX d bc bs mi pc L st n K R M (ck_Q O σ0 W n0 K0 R0 M0 outs) := by
  unfold ck_call at h
  simp only [ck_aW_eq, fl_lk_eq, fl_all_eq] at h
  cases he : E.lookup mj with
  | none => rw [he] at h; cases h
  | some l =>
    rw [he] at h
    dsimp only at h
    cases hp : ck_pick O n F as l with
    | none => rw [hp] at h; cases h
    | some S =>
      rw [hp] at h
      dsimp only at h
      simp only [Bool.and_eq_true, decide_eq_true_eq] at h
      obtain ⟨⟨h1, h2, h3⟩, ⟨h4, h5⟩, h6⟩ := h
      rw [ck_pick_def] at hp
      have hm := List.mem_of_find?_eq_some hp
      have h7 := List.find?_some hp
      simp only [Bool.and_eq_true, beq_iff_eq] at h7
      obtain ⟨h8, h9, hnt, h10, hown⟩ := h7
      obtain ⟨f1, f2, f3, f4, f5⟩ := hS
      refine hcall S.1.1 S.1.2.1 S.1.2.2 h1 h2 h3 ?_
      refine gm_Wp_mono (fun o n' K' R' M' hq => ?_) (hE.2 mj l he S hm S.1.1 (ck_sn O σ M) vs n K R M (Nat.le_refl _) h8.symm (ck_ntAs_s hnt (ck_gas_s h9 has)) (ck_sn_s hE.1) f1 (ck_own_s (ck_leF_s f1 f4 h10) hown))
      obtain ⟨g1, g2, oc, g3, g4, g5, g6⟩ := hq
      have h11 := List.all_eq_true.mp h6 oc g3
      have g7 := ck_fr_tr f5 g2 h4 h5
      have g8 := ck_mix_s f4 (ck_rG_s f1 f4 g6) g2
      obtain ⟨o1, o2, o3⟩ := oc
      dsimp only at g4 g5 g6 g8 h11
      subst g5
      rcases o1 with x | _ | a <;> rcases o with (_ | v) | z
      · exact g4.elim
      · exact g4.elim
      · cases g4
        change ck_thr _ _ _ _ _ _ _ _ = true at h11
        unfold ck_thr at h11
        show (match gm_hit (gm_ow mi) pc x false (gm_hh mi) with
          | some (some h) => gm_Wp X LX d _ _ mi h L [gm_vo 4000] _ K' R' M' (ck_Q O σ0 W n0 K0 R0 M0 outs)
          | some none => ck_Q O σ0 W n0 K0 R0 M0 outs (.inr x) _ K' R' M'
          | none => False)
        cases hhit : gm_hit (gm_ow mi) pc x false (gm_hh mi) with
        | none => rw [hhit] at h11; cases h11
        | some o9 =>
          rw [hhit] at h11
          cases o9 with
          | none => exact ck_end_s (how := .inl x) hs g1 g8 g7 rfl h11
          | some h9 => exact hk _ _ _ _ _ _ _ _ _ _ _ _ h11 ⟨g1, f2, ⟨gm_vo 4000, [], rfl, ⟨rfl, trivial⟩, rfl⟩, g8, g7⟩
      · exact hk _ _ _ _ _ _ _ _ _ _ _ _ h11 ⟨g1, f2, ck_sh_s hst, g8, g7⟩
      · exact g4.elim
      · exact g4.elim
      · exact g4.elim
      · exact hk _ _ _ _ _ _ _ _ _ _ _ _ h11 ⟨g1, f2, ⟨v, st', rfl, ⟨ck_rA_s f1 f4 g4, trivial⟩, ck_sh_s hst⟩, g8, g7⟩
      · exact g4.elim
end CJ
end
/-! 24.ci -/
section
/-! THE CHECKER: the instructions, one by one. -/
section CI
variable {O : gm_Or} {X : Int → Int} {LX : Nat} {lx : Option Nat} {XF : List (Int × Int × ck_I)} {E : List (Nat × List ck_Sum)} {mi d n0 : Nat} {W : List (Nat × Int × Int) × List (Nat × Int)} {outs : List ck_Oc} {bc bs pc : Nat} {L : gm_L} {st : List gm_V} {n : Nat} {K : gm_K} {R : gm_R} {M : gm_M} {AL : ck_AL} {AS : ck_AS} {F : ck_F} {σ σ0 : Nat → Int} {K0 : gm_K} {R0 : gm_R} {M0 : gm_M} {k : Nat → Nat → Nat → ck_AL → ck_AS → Nat → ck_F → Bool}
theorem ck_j_ineg   (hat : gm_at mi pc = some (.ineg)) (hS : ck_St O σ W n0 K0 R0 M0 AL AS F L st n K R M) (hk : ck_On O X LX σ mi d W n0 K0 R0 M0 (ck_Q O σ0 W n0 K0 R0 M0 outs) k) (h : ck_j O lx XF E mi d n0 W outs bc bs pc AL AS n F k (.ineg) = true) : gm_Wp X LX d bc bs mi pc L st n K R M (ck_Q O σ0 W n0 K0 R0 M0 outs) := by
  rcases AS with _ | ⟨⟨a | a | r | c, s⟩, AS⟩ <;> (try exact absurd (show false = true from h) Bool.false_ne_true)
  obtain ⟨f1, f2, f3, f4, f5⟩ := hS
  obtain ⟨x, st, rfl, hx, ha, -, hst⟩ := ck_qi f3
  refine gm_sz (gm_p_un hat rfl) (ck_nv (hk _ _ _ _ _ _ _ _ _ _ _ _ h ⟨f1, f2, ck_pi (ck_w_ir _) (ck_nrm_s ⟨?_, ?_, ck_gt_none⟩) trivial hst, f4, f5⟩))
  · have := ha.2.1
    show - a.2.1 ≤ - x
    omega
  · have := ha.1
    show - x ≤ - a.1
    omega
theorem ck_j_i2b   (hat : gm_at mi pc = some (.i2b)) (hS : ck_St O σ W n0 K0 R0 M0 AL AS F L st n K R M) (hk : ck_On O X LX σ mi d W n0 K0 R0 M0 (ck_Q O σ0 W n0 K0 R0 M0 outs) k) (h : ck_j O lx XF E mi d n0 W outs bc bs pc AL AS n F k (.i2b) = true) : gm_Wp X LX d bc bs mi pc L st n K R M (ck_Q O σ0 W n0 K0 R0 M0 outs) := by
  rcases AS with _ | ⟨⟨a | a | r | c, s⟩, AS⟩ <;> (try exact absurd (show false = true from h) Bool.false_ne_true)
  obtain ⟨f1, f2, f3, f4, f5⟩ := hS
  obtain ⟨x, st, rfl, hx, ha, -, hst⟩ := ck_qi f3
  have h0 : -128 ≤ gm_wb x ∧ gm_wb x ≤ 127 := by unfold gm_wb; omega
  refine gm_sz (gm_p_un hat rfl) (hk _ _ _ _ _ _ _ _ _ _ _ _ h ⟨f1, f2, ck_pi (by unfold gm_ir; omega) ?_ trivial hst, f4, f5⟩)
  split
  · rename_i e
    have h1 : gm_wb x = x := by
      have := ha.1
      have := ha.2.1
      unfold gm_wb
      omega
    rw [h1]
    exact ha
  · exact ⟨h0.1, h0.2, ck_gt_none⟩
theorem ck_j_i2l   (hat : gm_at mi pc = some (.i2l)) (hS : ck_St O σ W n0 K0 R0 M0 AL AS F L st n K R M) (hk : ck_On O X LX σ mi d W n0 K0 R0 M0 (ck_Q O σ0 W n0 K0 R0 M0 outs) k) (h : ck_j O lx XF E mi d n0 W outs bc bs pc AL AS n F k (.i2l) = true) : gm_Wp X LX d bc bs mi pc L st n K R M (ck_Q O σ0 W n0 K0 R0 M0 outs) := by
  rcases AS with _ | ⟨⟨a | a | r | c, s⟩, AS⟩ <;> (try exact absurd (show false = true from h) Bool.false_ne_true)
  obtain ⟨f1, f2, f3, f4, f5⟩ := hS
  obtain ⟨x, st, rfl, hx, ha, -, hst⟩ := ck_qi f3
  have h1 := gm_p_i2l (X := X) (LX := LX) (d := d) (L := L) (st := st) (n := n) (K := K) (R := R) (M := M) (x := x) hat
  rw [gm_ir_w hx] at h1
  exact gm_sz h1 (hk _ _ _ _ _ _ _ _ _ _ _ _ h ⟨f1, f2, ck_pl (ck_r6_i hx) ha hst, f4, f5⟩)
theorem ck_j_l2i   (hat : gm_at mi pc = some (.l2i)) (hS : ck_St O σ W n0 K0 R0 M0 AL AS F L st n K R M) (hk : ck_On O X LX σ mi d W n0 K0 R0 M0 (ck_Q O σ0 W n0 K0 R0 M0 outs) k) (h : ck_j O lx XF E mi d n0 W outs bc bs pc AL AS n F k (.l2i) = true) : gm_Wp X LX d bc bs mi pc L st n K R M (ck_Q O σ0 W n0 K0 R0 M0 outs) := by
  rcases AS with _ | ⟨⟨a | a | r | c, s⟩, AS⟩ <;> (try exact absurd (show false = true from h) Bool.false_ne_true)
  obtain ⟨f1, f2, f3, f4, f5⟩ := hS
  obtain ⟨x, st, rfl, hx, ha, hst⟩ := ck_ql f3
  exact gm_sz (gm_p_l2i hat) (ck_nv (hk _ _ _ _ _ _ _ _ _ _ _ _ h ⟨f1, f2, ck_pi (ck_w_ir _) (ck_nrm_s ha) trivial hst, f4, f5⟩))
theorem ck_j_lcmp   (hat : gm_at mi pc = some (.lcmp)) (hS : ck_St O σ W n0 K0 R0 M0 AL AS F L st n K R M) (hk : ck_On O X LX σ mi d W n0 K0 R0 M0 (ck_Q O σ0 W n0 K0 R0 M0 outs) k) (h : ck_j O lx XF E mi d n0 W outs bc bs pc AL AS n F k (.lcmp) = true) : gm_Wp X LX d bc bs mi pc L st n K R M (ck_Q O σ0 W n0 K0 R0 M0 outs) := by
  rcases AS with _ | ⟨⟨b | b | r | c, t⟩, _ | ⟨⟨a | a | r' | c', s⟩, AS⟩⟩ <;> (try exact absurd (show false = true from h) Bool.false_ne_true)
  obtain ⟨f1, f2, f3, f4, f5⟩ := hS
  obtain ⟨y, st, rfl, hy, hb, hst⟩ := ck_ql f3
  obtain ⟨x, st, rfl, hx, ha, hst⟩ := ck_ql hst
  have hx1 : gm_w6 x = x := by unfold ck_r6 at hx; unfold gm_w6; omega
  have hy1 : gm_w6 y = y := by unfold ck_r6 at hy; unfold gm_w6; omega
  have h0 : gm_lcm x y = if y < x then 1 else if x = y then 0 else -1 := by unfold gm_lcm; rw [hx1, hy1]
  refine gm_sz (gm_p_lcmp hat) (hk _ _ _ _ _ _ _ _ _ _ _ _ h ⟨f1, f2, ck_pi ?_ ?_ trivial hst, f4, f5⟩)
  · rw [h0]
    split
    · exact ⟨by decide, by decide⟩
    · split <;> exact ⟨by decide, by decide⟩
  · obtain ⟨a1, a2, a3⟩ := _root_.id ha
    obtain ⟨b1, b2, b3⟩ := _root_.id hb
    split
    · rename_i e
      simp only [Bool.and_eq_true, Bool.or_eq_true] at e
      obtain ⟨⟨e1, e2⟩, e3⟩ := e
      have hxy : x = y := by
        rcases e3 with e3 | e4
        · have e5 := ck_sg_s ha e3
          have e6 := ck_leI_s e2 hb
          have e7 := ck_sg_s e6 e3
          omega
        · unfold ck_ex at e4
          obtain ⟨p, hp, e8⟩ := List.any_eq_true.mp e4
          have e8 := of_decide_eq_true e8
          have e5 := ((ck_leI_s e1 ha).2.2 p hp).1 e8
          have e6 := (b3 p hp).1 e8
          omega
      rw [h0, if_neg (by omega), if_pos hxy]
      exact ck_one_s 0
    · split
      · rw [h0, if_neg (by omega), if_neg (by omega)]
        exact ck_one_s (-1)
      · split
        · rw [h0, if_pos (by omega)]
          exact ck_one_s 1
        · rw [h0]
          refine ⟨?_, ?_, ck_gt_none⟩ <;> dsimp only <;> split <;> (try split) <;> decide
theorem ck_j_idiv   (hat : gm_at mi pc = some (.idiv)) (hS : ck_St O σ W n0 K0 R0 M0 AL AS F L st n K R M) (hk : ck_On O X LX σ mi d W n0 K0 R0 M0 (ck_Q O σ0 W n0 K0 R0 M0 outs) k) (h : ck_j O lx XF E mi d n0 W outs bc bs pc AL AS n F k (.idiv) = true) : gm_Wp X LX d bc bs mi pc L st n K R M (ck_Q O σ0 W n0 K0 R0 M0 outs) := by
  rcases AS with _ | ⟨⟨b | b | r | c, t⟩, _ | ⟨⟨a | a | r' | c', s⟩, AS⟩⟩ <;> (try exact absurd (show false = true from h) Bool.false_ne_true)
  obtain ⟨f1, f2, f3, f4, f5⟩ := hS
  obtain ⟨y, st, rfl, hy, hb, -, hst⟩ := ck_qi f3
  obtain ⟨x, st, rfl, hx, ha, hsx, hst⟩ := ck_qi hst
  have h : ((decide (0 < b.1) || decide (b.2.1 < 0)) && cond (ck_sgl a b s) (ck_br .lt a s (ck_one 0) none AL F (fun AL F => k bc bs (pc + 1) AL ((.inl (ck_dv (ck_rf .lt a (ck_one 0)) b), none) :: AS) n F) && ck_br .ge a s (ck_one 0) none AL F (fun AL F => k bc bs (pc + 1) AL ((.inl (ck_dv (ck_rf .ge a (ck_one 0)) b), none) :: AS) n F)) (k bc bs (pc + 1) AL ((.inl (ck_dv a b), none) :: AS) n F)) = true := h
  rw [Bool.and_eq_true] at h
  obtain ⟨h8, h⟩ := h
  simp only [Bool.or_eq_true, decide_eq_true_eq] at h8
  obtain ⟨b1, b2, b3⟩ := _root_.id hb
  have hne : ¬ gm_w y = 0 := by rw [gm_ir_w hy]; omega
  have h0 : gm_div x y = Int.tdiv x y := by unfold gm_div; rw [gm_ir_w hx, gm_ir_w hy]
  have key : ∀ a' : ck_I, ck_gi σ a' x → ck_gi σ (ck_dv a' b) (gm_w (gm_div x y)) := by
    intro a' ha'
    obtain ⟨a1, a2, a3⟩ := _root_.id ha'
    rw [h0]
    unfold ck_dv
    split
    · rename_i e
      rw [Bool.and_eq_true] at e
      rw [ck_sg_s ha' e.1, ck_sg_s hb e.2]
      exact ck_one_s _
    · split
      · rename_i e
        have hx0 : 0 ≤ x := by omega
        have hy0 : 0 < y := by omega
        have h3 : Int.tdiv x y = x / y := Int.tdiv_eq_ediv_of_nonneg hx0
        have h4 : 0 ≤ x / y := Int.ediv_nonneg hx0 (by omega)
        have h5 : x / y ≤ x := Int.ediv_le_self y hx0
        rw [h3]
        rw [gm_ir_w (by unfold gm_ir at hx ⊢; omega)]
        exact ⟨h4, by dsimp only; omega, ck_gt_none⟩
      · exact ck_top_s _
  refine gm_sz (gm_p_div hat hne) (ck_nv ?_)
  cases hg : ck_sgl a b s with
  | false =>
    rw [hg] at h
    exact hk _ _ _ _ _ _ _ _ _ _ _ _ h ⟨f1, f2, ck_pi (ck_w_ir _) (key a ha) (s := none) trivial hst, f4, f5⟩
  | true =>
    rw [hg] at h
    have h : (ck_br .lt a s (ck_one 0) none AL F (fun AL F => k bc bs (pc + 1) AL ((.inl (ck_dv (ck_rf .lt a (ck_one 0)) b), none) :: AS) n F) && ck_br .ge a s (ck_one 0) none AL F (fun AL F => k bc bs (pc + 1) AL ((.inl (ck_dv (ck_rf .ge a (ck_one 0)) b), none) :: AS) n F)) = true := h
    rw [Bool.and_eq_true] at h
    have hS0 : ck_St O σ W n0 K0 R0 M0 AL AS F L st n K R M := ⟨f1, f2, hst, f4, f5⟩
    by_cases hx0 : x < 0
    · have hc : gm_cm .lt x 0 := hx0
      exact ck_br_s (c := .lt) hS0 hx ha hsx ⟨by decide, by decide⟩ (ck_one_s 0) (t := none) trivial hc h.1 (fun AL F hq hS => hk _ _ _ _ _ _ _ _ _ _ _ _ hq ⟨hS.1, hS.2.1, ck_pi (ck_w_ir _) (key _ (ck_rf_s ha (ck_one_s 0) hc)) (s := none) trivial hS.2.2.1, hS.2.2.2.1, hS.2.2.2.2⟩)
    · have hc : gm_cm .ge x 0 := by show (0 : Int) ≤ x; omega
      exact ck_br_s (c := .ge) hS0 hx ha hsx ⟨by decide, by decide⟩ (ck_one_s 0) (t := none) trivial hc h.2 (fun AL F hq hS => hk _ _ _ _ _ _ _ _ _ _ _ _ hq ⟨hS.1, hS.2.1, ck_pi (ck_w_ir _) (key _ (ck_rf_s ha (ck_one_s 0) hc)) (s := none) trivial hS.2.2.1, hS.2.2.2.1, hS.2.2.2.2⟩)
theorem ck_j_irem   (hat : gm_at mi pc = some (.irem)) (hS : ck_St O σ W n0 K0 R0 M0 AL AS F L st n K R M) (hk : ck_On O X LX σ mi d W n0 K0 R0 M0 (ck_Q O σ0 W n0 K0 R0 M0 outs) k) (h : ck_j O lx XF E mi d n0 W outs bc bs pc AL AS n F k (.irem) = true) : gm_Wp X LX d bc bs mi pc L st n K R M (ck_Q O σ0 W n0 K0 R0 M0 outs) := by
  rcases AS with _ | ⟨⟨b | b | r | c, t⟩, _ | ⟨⟨a | a | r' | c', s⟩, AS⟩⟩ <;> (try exact absurd (show false = true from h) Bool.false_ne_true)
  obtain ⟨f1, f2, f3, f4, f5⟩ := hS
  obtain ⟨y, st, rfl, hy, hb, -, hst⟩ := ck_qi f3
  obtain ⟨x, st, rfl, hx, ha, -, hst⟩ := ck_qi hst
  have h : ((decide (0 < b.1) || decide (b.2.1 < 0)) && k bc bs (pc + 1) AL ((.inl (if (ck_sg a && ck_sg b) = true then ck_one (gm_w (Int.tmod a.1 b.1)) else if 0 ≤ a.1 ∧ 0 < b.1 then (0, b.2.1 - 1, []) else ck_top), none) :: AS) n F) = true := h
  simp only [Bool.and_eq_true, Bool.or_eq_true, decide_eq_true_eq] at h
  obtain ⟨a1, a2, a3⟩ := _root_.id ha
  obtain ⟨b1, b2, b3⟩ := _root_.id hb
  have hne : ¬ gm_w y = 0 := by rw [gm_ir_w hy]; omega
  have h0 : gm_rem x y = Int.tmod x y := by unfold gm_rem; rw [gm_ir_w hx, gm_ir_w hy]
  refine gm_sz (gm_p_rem hat hne) (ck_nv (hk _ _ _ _ _ _ _ _ _ _ _ _ h.2 ⟨f1, f2, ck_pi (ck_w_ir _) ?_ trivial hst, f4, f5⟩))
  rw [h0]
  split
  · rename_i e
    rw [ck_sg_s ha e.1, ck_sg_s hb e.2]
    exact ck_one_s _
  · split
    · rename_i e
      have hx0 : 0 ≤ x := by omega
      have hy0 : 0 < y := by omega
      have h3 : Int.tmod x y = x % y := Int.tmod_eq_emod_of_nonneg hx0
      have h4 : 0 ≤ x % y := Int.emod_nonneg x (by omega)
      have h5 : x % y < y := Int.emod_lt_of_pos x hy0
      rw [h3]
      rw [gm_ir_w (by unfold gm_ir at hy ⊢; omega)]
      exact ⟨h4, by dsimp only; omega, ck_gt_none⟩
    · exact ck_top_s _
theorem ck_j_dup   (hat : gm_at mi pc = some (.dup)) (hS : ck_St O σ W n0 K0 R0 M0 AL AS F L st n K R M) (hk : ck_On O X LX σ mi d W n0 K0 R0 M0 (ck_Q O σ0 W n0 K0 R0 M0 outs) k) (h : ck_j O lx XF E mi d n0 W outs bc bs pc AL AS n F k (.dup) = true) : gm_Wp X LX d bc bs mi pc L st n K R M (ck_Q O σ0 W n0 K0 R0 M0 outs) := by
  rcases AS with _ | ⟨q, AS⟩ <;> (try exact absurd (show false = true from h) Bool.false_ne_true)
  obtain ⟨f1, f2, f3, f4, f5⟩ := hS
  obtain ⟨v, st, rfl, hso, hv, hst⟩ := ck_q1 f3
  have h : (!(ck_so q.1 == 1) && k bc bs (pc + 1) AL (q :: q :: AS) n F) = true := h
  simp only [Bool.and_eq_true, Bool.not_eq_true', beq_eq_false_iff_ne, ne_eq] at h
  exact gm_sz (gm_p_dup hat (by rw [hso]; exact h.1)) (hk _ _ _ _ _ _ _ _ _ _ _ _ h.2 ⟨f1, f2, ⟨v, v :: st, rfl, hv, v, st, rfl, hv, hst⟩, f4, f5⟩)
theorem ck_j_pop   (hat : gm_at mi pc = some (.pop)) (hS : ck_St O σ W n0 K0 R0 M0 AL AS F L st n K R M) (hk : ck_On O X LX σ mi d W n0 K0 R0 M0 (ck_Q O σ0 W n0 K0 R0 M0 outs) k) (h : ck_j O lx XF E mi d n0 W outs bc bs pc AL AS n F k (.pop) = true) : gm_Wp X LX d bc bs mi pc L st n K R M (ck_Q O σ0 W n0 K0 R0 M0 outs) := by
  rcases AS with _ | ⟨q, AS⟩ <;> (try exact absurd (show false = true from h) Bool.false_ne_true)
  obtain ⟨f1, f2, f3, f4, f5⟩ := hS
  obtain ⟨v, st, rfl, hso, hv, hst⟩ := ck_q1 f3
  have h : (!(ck_so q.1 == 1) && k bc bs (pc + 1) AL AS n F) = true := h
  simp only [Bool.and_eq_true, Bool.not_eq_true', beq_eq_false_iff_ne, ne_eq] at h
  exact gm_sz (gm_p_pop hat (by rw [hso]; exact h.1)) (hk _ _ _ _ _ _ _ _ _ _ _ _ h.2 ⟨f1, f2, hst, f4, f5⟩)
theorem ck_j_dup2   (hat : gm_at mi pc = some (.dup2)) (hS : ck_St O σ W n0 K0 R0 M0 AL AS F L st n K R M) (hk : ck_On O X LX σ mi d W n0 K0 R0 M0 (ck_Q O σ0 W n0 K0 R0 M0 outs) k) (h : ck_j O lx XF E mi d n0 W outs bc bs pc AL AS n F k (.dup2) = true) : gm_Wp X LX d bc bs mi pc L st n K R M (ck_Q O σ0 W n0 K0 R0 M0 outs) := by
  rcases AS with _ | ⟨q, _ | ⟨q2, AS⟩⟩ <;> (try exact absurd (show false = true from h) Bool.false_ne_true)
  obtain ⟨f1, f2, f3, f4, f5⟩ := hS
  obtain ⟨v, st, rfl, hso, hv, hst⟩ := ck_q1 f3
  obtain ⟨u, st, rfl, hso2, hu, hst⟩ := ck_q1 hst
  have h : ((!(ck_so q.1 == 1) && !(ck_so q2.1 == 1)) && k bc bs (pc + 1) AL (q :: q2 :: q :: q2 :: AS) n F) = true := h
  simp only [Bool.and_eq_true, Bool.not_eq_true', beq_eq_false_iff_ne, ne_eq] at h
  exact gm_sz (gm_p_dup2 hat (by rw [hso]; exact h.1.1) (by rw [hso2]; exact h.1.2)) (hk _ _ _ _ _ _ _ _ _ _ _ _ h.2 ⟨f1, f2, ⟨v, _, rfl, hv, u, _, rfl, hu, v, _, rfl, hv, u, _, rfl, hu, hst⟩, f4, f5⟩)
theorem ck_j_iinc {j : Nat} {z : Int}  (hat : gm_at mi pc = some (.iinc j z)) (hS : ck_St O σ W n0 K0 R0 M0 AL AS F L st n K R M) (hk : ck_On O X LX σ mi d W n0 K0 R0 M0 (ck_Q O σ0 W n0 K0 R0 M0 outs) k) (h : ck_j O lx XF E mi d n0 W outs bc bs pc AL AS n F k (.iinc j z) = true) : gm_Wp X LX d bc bs mi pc L st n K R M (ck_Q O σ0 W n0 K0 R0 M0 outs) := by
  obtain ⟨f1, f2, f3, f4, f5⟩ := hS
  unfold ck_j at h
  dsimp only at h
  split at h
  · rename_i a hj
    obtain ⟨u, hu, x, rfl, hx, ha⟩ := f2.2 j _ hj
    split at h
    case isFalse => exact gm_sz (gm_p_iinc hat hu) (ck_nvL (hk _ _ _ _ _ _ _ _ _ _ _ _ h ⟨f1, ck_lst_s f2 (a := .inl _) ⟨_, rfl, ck_w_ir _, ck_top_s _⟩, ck_sl_s f3, f4, f5⟩))
    rename_i h1
    have ha2 : ck_gi σ (a.1 + z, a.2.1 + z, ck_mv a.2.2 z) (x + z) := ⟨Int.add_le_add_right ha.1 z, Int.add_le_add_right ha.2.1 z, ck_mv_s ha.2.2⟩
    have hx2 : gm_ir (x + z) := ck_in_s (σ := σ) (a := (a.1 + z, a.2.1 + z, [])) ⟨ha2.1, ha2.2.1, ck_gt_none⟩ h1
    exact gm_sz (gm_p_iinc hat hu) (hk _ _ _ _ _ _ _ _ _ _ _ _ h ⟨f1, ck_lst_s f2 (a := .inl _) ⟨_, rfl, hx2, ha2⟩, ck_sl_s f3, f4, f5⟩)
  · cases h
theorem ck_j_goto {off : Int}  (hat : gm_at mi pc = some (.goto off)) (hS : ck_St O σ W n0 K0 R0 M0 AL AS F L st n K R M) (hk : ck_On O X LX σ mi d W n0 K0 R0 M0 (ck_Q O σ0 W n0 K0 R0 M0 outs) k) (h : ck_j O lx XF E mi d n0 W outs bc bs pc AL AS n F k (.goto off) = true) : gm_Wp X LX d bc bs mi pc L st n K R M (ck_Q O σ0 W n0 K0 R0 M0 outs) := by
  obtain ⟨f1, f2, f3, f4, f5⟩ := hS
  have h : (decide (0 ≤ (pc : Int) + off) && k bc bs (gm_tgt pc off) AL AS n F) = true := h
  simp only [Bool.and_eq_true, decide_eq_true_eq] at h
  exact gm_sz (gm_p_goto hat h.1) (hk _ _ _ _ _ _ _ _ _ _ _ _ h.2 ⟨f1, f2, f3, f4, f5⟩)
theorem ck_rE_St (hS : ck_St O σ W n0 K0 R0 M0 AL AS F L st n K R M) : ck_St O σ W n0 K0 R0 M0 AL AS (ck_rE O F) L st n K R M := ⟨hS.1, hS.2.1, hS.2.2.1, ck_rE_s hS.1 hS.2.2.2.1, hS.2.2.2.2⟩
theorem ck_j_if {cc : ClassFile.Cond} {off : Int}  (hat : gm_at mi pc = some (.ifCond cc off)) (hS : ck_St O σ W n0 K0 R0 M0 AL AS F L st n K R M) (hk : ck_On O X LX σ mi d W n0 K0 R0 M0 (ck_Q O σ0 W n0 K0 R0 M0 outs) k) (h : ck_j O lx XF E mi d n0 W outs bc bs pc AL AS n F k (.ifCond cc off) = true) : gm_Wp X LX d bc bs mi pc L st n K R M (ck_Q O σ0 W n0 K0 R0 M0 outs) := by
  rcases AS with _ | ⟨⟨a | a | r | c, s⟩, AS⟩ <;> (try exact absurd (show false = true from h) Bool.false_ne_true)
  obtain ⟨x, st, rfl, hx, ha, hs9, hst⟩ := ck_qi hS.2.2.1
  have hS2 : ck_St O σ W n0 K0 R0 M0 AL AS F L st n K R M := ⟨hS.1, hS.2.1, hst, hS.2.2.2.1, hS.2.2.2.2⟩
  have h : (decide (0 ≤ (pc : Int) + off) && (ck_br cc a s (ck_one 0) none AL F (fun AL F => k bc bs (gm_tgt pc off) AL AS n (ck_rE O F)) && ck_br (ck_ng cc) a s (ck_one 0) none AL F (fun AL F => k bc bs (pc + 3) AL AS n (ck_rE O F)))) = true := h
  simp only [Bool.and_eq_true, decide_eq_true_eq] at h
  obtain ⟨h1, h2, h3⟩ := h
  have h0 : gm_ir 0 := ⟨by decide, by decide⟩
  refine gm_b_if hat h1 (fun hc => ?_) (fun hc => ?_)
  · rw [gm_cm_w hx h0] at hc
    exact ck_br_s hS2 hx ha hs9 h0 (ck_one_s 0) (t := none) trivial hc h2 (fun AL F hq hS => hk _ _ _ _ _ _ _ _ _ _ _ _ hq (ck_rE_St hS))
  · rw [gm_cm_w hx h0] at hc
    exact ck_br_s hS2 hx ha hs9 h0 (ck_one_s 0) (t := none) trivial (ck_ng_s hc) h3 (fun AL F hq hS => hk _ _ _ _ _ _ _ _ _ _ _ _ hq (ck_rE_St hS))
theorem ck_j_ic {cc : ClassFile.Cond} {off : Int}  (hat : gm_at mi pc = some (.if_icmp cc off)) (hS : ck_St O σ W n0 K0 R0 M0 AL AS F L st n K R M) (hk : ck_On O X LX σ mi d W n0 K0 R0 M0 (ck_Q O σ0 W n0 K0 R0 M0 outs) k) (h : ck_j O lx XF E mi d n0 W outs bc bs pc AL AS n F k (.if_icmp cc off) = true) : gm_Wp X LX d bc bs mi pc L st n K R M (ck_Q O σ0 W n0 K0 R0 M0 outs) := by
  rcases AS with _ | ⟨⟨b | b | r | c, t⟩, _ | ⟨⟨a | a | r' | c', s⟩, AS⟩⟩ <;> (try exact absurd (show false = true from h) Bool.false_ne_true)
  obtain ⟨y, st, rfl, hy, hb, ht9, hst⟩ := ck_qi hS.2.2.1
  obtain ⟨x, st, rfl, hx, ha, hs9, hst⟩ := ck_qi hst
  have hS2 : ck_St O σ W n0 K0 R0 M0 AL AS F L st n K R M := ⟨hS.1, hS.2.1, hst, hS.2.2.2.1, hS.2.2.2.2⟩
  unfold ck_j at h
  dsimp only at h
  rw [Bool.and_eq_true, decide_eq_true_eq] at h
  obtain ⟨h1, h⟩ := h
  cases hl : ck_lkp O F s t with
  | none =>
    rw [hl] at h
    dsimp only at h
    rw [Bool.and_eq_true] at h
    obtain ⟨h2, h3⟩ := h
    refine gm_b_ic hat h1 (fun hc => ?_) (fun hc => ?_)
    · rw [gm_cm_w hx hy] at hc
      exact ck_br_s hS2 hx ha hs9 hy hb ht9 hc h2 (fun AL F hq hS => hk _ _ _ _ _ _ _ _ _ _ _ _ hq (ck_rE_St hS))
    · rw [gm_cm_w hx hy] at hc
      exact ck_br_s hS2 hx ha hs9 hy hb ht9 (ck_ng_s hc) h3 (fun AL F hq hS => hk _ _ _ _ _ _ _ _ _ _ _ _ hq (ck_rE_St hS))
  | some w =>
    rw [hl] at h
    dsimp only at h
    rw [Bool.and_eq_true] at h
    obtain ⟨h2, h3⟩ := h
    obtain ⟨l1, l2, l3⟩ := ck_lkp_s hS.1 hS.2.2.2.1 hs9 ht9 hl
    have h0 : gm_ir 0 := ⟨by decide, by decide⟩
    refine gm_b_ic hat h1 (fun hc => ?_) (fun hc => ?_)
    · rw [gm_cm_w hx hy, ck_cm0] at hc
      exact ck_br_s hS2 l1 l2 l3 h0 (ck_one_s 0) (t := none) trivial hc h2 (fun AL F hq hS => hk _ _ _ _ _ _ _ _ _ _ _ _ hq (ck_rE_St hS))
    · rw [gm_cm_w hx hy, ck_cm0] at hc
      exact ck_br_s hS2 l1 l2 l3 h0 (ck_one_s 0) (t := none) trivial (ck_ng_s hc) h3 (fun AL F hq hS => hk _ _ _ _ _ _ _ _ _ _ _ _ hq (ck_rE_St hS))
theorem ck_j_ifnull {off : Int}  (hat : gm_at mi pc = some (.ifnull off)) (hS : ck_St O σ W n0 K0 R0 M0 AL AS F L st n K R M) (hk : ck_On O X LX σ mi d W n0 K0 R0 M0 (ck_Q O σ0 W n0 K0 R0 M0 outs) k) (h : ck_j O lx XF E mi d n0 W outs bc bs pc AL AS n F k (.ifnull off) = true) : gm_Wp X LX d bc bs mi pc L st n K R M (ck_Q O σ0 W n0 K0 R0 M0 outs) := by
  rcases AS with _ | ⟨⟨a | a | r | c, s⟩, AS⟩ <;> (try exact absurd (show false = true from h) Bool.false_ne_true)
  obtain ⟨f1, f2, f3, f4, f5⟩ := hS
  obtain ⟨st, rfl, hst⟩ := ck_qr f3
  have h : ((decide (0 ≤ (pc : Int) + off) && decide (r < 100000)) && (if r = 0 then k bc bs (gm_tgt pc off) AL AS n F else k bc bs (pc + 3) AL AS n F)) = true := h
  simp only [Bool.and_eq_true, decide_eq_true_eq] at h
  obtain ⟨⟨h1, h9⟩, h2⟩ := h
  refine gm_b_nul h9 hat h1 (fun hc => ?_) (fun hc => ?_)
  · rw [if_pos hc] at h2
    exact hk _ _ _ _ _ _ _ _ _ _ _ _ h2 ⟨f1, f2, hst, f4, f5⟩
  · rw [if_neg hc] at h2
    exact hk _ _ _ _ _ _ _ _ _ _ _ _ h2 ⟨f1, f2, hst, f4, f5⟩
theorem ck_j_ifnonnull {off : Int}  (hat : gm_at mi pc = some (.ifnonnull off)) (hS : ck_St O σ W n0 K0 R0 M0 AL AS F L st n K R M) (hk : ck_On O X LX σ mi d W n0 K0 R0 M0 (ck_Q O σ0 W n0 K0 R0 M0 outs) k) (h : ck_j O lx XF E mi d n0 W outs bc bs pc AL AS n F k (.ifnonnull off) = true) : gm_Wp X LX d bc bs mi pc L st n K R M (ck_Q O σ0 W n0 K0 R0 M0 outs) := by
  rcases AS with _ | ⟨⟨a | a | r | c, s⟩, AS⟩ <;> (try exact absurd (show false = true from h) Bool.false_ne_true)
  obtain ⟨f1, f2, f3, f4, f5⟩ := hS
  obtain ⟨st, rfl, hst⟩ := ck_qr f3
  have h : ((decide (0 ≤ (pc : Int) + off) && decide (r < 100000)) && (if r = 0 then k bc bs (pc + 3) AL AS n F else k bc bs (gm_tgt pc off) AL AS n F)) = true := h
  simp only [Bool.and_eq_true, decide_eq_true_eq] at h
  obtain ⟨⟨h1, h9⟩, h2⟩ := h
  refine gm_b_nnul h9 hat h1 (fun hc => ?_) (fun hc => ?_)
  · rw [if_neg hc] at h2
    exact hk _ _ _ _ _ _ _ _ _ _ _ _ h2 ⟨f1, f2, hst, f4, f5⟩
  · rw [if_pos hc] at h2
    exact hk _ _ _ _ _ _ _ _ _ _ _ _ h2 ⟨f1, f2, hst, f4, f5⟩
theorem ck_swk_s {a : ck_I} {s : ck_S} {x : Int} {g : Nat → Prop} {kk : Nat → ck_AL → ck_F → Bool} (hS : ck_St O σ W n0 K0 R0 M0 AL AS F L st n K R M) (hx : gm_ir x) (ha : ck_gi σ a x) (hs : ck_gr L M s (gm_vi x)) (hg : ∀ q AL F, kk q AL F = true → ck_St O σ W n0 K0 R0 M0 AL AS F L st n K R M → g q) : ∀ (os : List Int) (v : Int), (gm_ir v ∧ v + os.length ≤ 2147483648) → ck_swk a s AL F pc kk os v = true → gm_swt x g pc os v := by
  intro os
  induction os with
  | nil => intro v _ _; trivial
  | cons o os ih =>
    intro v hv h
    have h : (ck_br .eq a s (ck_one v) none AL F (kk (gm_tgt pc o)) && ck_swk a s AL F pc kk os (v + 1)) = true := h
    rw [Bool.and_eq_true] at h
    simp only [List.length_cons] at hv
    refine ⟨fun e => ?_, ?_⟩
    · have e2 : x = v := by
        rw [gm_ir_w hx] at e
        exact e
      exact ck_br_s hS hx ha hs hv.1 (ck_one_s v) (t := none) trivial (c := .eq) e2 h.1 (fun AL F hq hS => hg _ _ _ hq hS)
    · cases os with
      | nil => trivial
      | cons o2 os => exact ih (v + 1) ⟨by have := hv.1; unfold gm_ir at *; simp only [List.length_cons] at hv; omega, by simp only [List.length_cons] at hv ⊢; omega⟩ h.2
theorem ck_j_sw {df lo hi : Int} {offs : Array Int}  (hat : gm_at mi pc = some (.tableswitch df lo hi offs)) (hS : ck_St O σ W n0 K0 R0 M0 AL AS F L st n K R M) (hk : ck_On O X LX σ mi d W n0 K0 R0 M0 (ck_Q O σ0 W n0 K0 R0 M0 outs) k) (h : ck_j O lx XF E mi d n0 W outs bc bs pc AL AS n F k (.tableswitch df lo hi offs) = true) : gm_Wp X LX d bc bs mi pc L st n K R M (ck_Q O σ0 W n0 K0 R0 M0 outs) := by
  rcases AS with _ | ⟨⟨a | a | r | c, s⟩, AS⟩ <;> (try exact absurd (show false = true from h) Bool.false_ne_true)
  obtain ⟨x, st, rfl, hx, ha, hs9, hst⟩ := ck_qi hS.2.2.1
  have hS2 : ck_St O σ W n0 K0 R0 M0 AL AS F L st n K R M := ⟨hS.1, hS.2.1, hst, hS.2.2.2.1, hS.2.2.2.2⟩
  have h : ((decide (((offs.size : Nat) : Int) = hi - lo + 1) && (decide (0 ≤ (pc : Int) + df) && (offs.toList.all (fun o => decide (0 ≤ (pc : Int) + o)) && (decide (-2147483647 ≤ lo) && decide (hi < 2147483647))))) && ((ck_br .lt a s (ck_one lo) none AL F (fun AL F => k bc bs (gm_tgt pc df) AL AS n F) && ck_br .gt a s (ck_one hi) none AL F (fun AL F => k bc bs (gm_tgt pc df) AL AS n F)) && ck_swk a s AL F pc (fun q AL F => k bc bs q AL AS n F) offs.toList lo)) = true := h
  simp only [Bool.and_eq_true, decide_eq_true_eq, List.all_eq_true] at h
  obtain ⟨⟨h1, h2, h3, h4, h5⟩, ⟨h6, h7⟩, h8⟩ := h
  have hlo : gm_ir lo := by unfold gm_ir; omega
  have hhi : gm_ir hi := by unfold gm_ir; omega
  refine gm_b_sw hat h1 ⟨h2, h3⟩ (fun hc => ?_) (ck_swk_s hS2 hx ha hs9 (fun q AL F hq hS => hk _ _ _ _ _ _ _ _ _ _ _ _ hq hS) _ _ ⟨hlo, ?_⟩ h8)
  · rw [gm_ir_w hx] at hc
    rcases hc with hc | hc
    · exact ck_br_s hS2 hx ha hs9 hlo (ck_one_s lo) (t := none) trivial (c := .lt) hc h6 (fun AL F hq hS => hk _ _ _ _ _ _ _ _ _ _ _ _ hq hS)
    · exact ck_br_s hS2 hx ha hs9 hhi (ck_one_s hi) (t := none) trivial (c := .gt) hc h7 (fun AL F hq hS => hk _ _ _ _ _ _ _ _ _ _ _ _ hq hS)
  · rw [Array.length_toList]
    omega
end CI
end
/-! 25.cm -/
section
/-! THE CHECKER: heap, calls and ends. -/
section CM
variable {O : gm_Or} {X : Int → Int} {LX : Nat} {lx : Option Nat} {XF : List (Int × Int × ck_I)} {E : List (Nat × List ck_Sum)} {mi d n0 : Nat} {W : List (Nat × Int × Int) × List (Nat × Int)} {outs : List ck_Oc} {bc bs pc : Nat} {L : gm_L} {st : List gm_V} {n : Nat} {K : gm_K} {R : gm_R} {M : gm_M} {AL : ck_AL} {AS : ck_AS} {F : ck_F} {σ σ0 : Nat → Int} {K0 : gm_K} {R0 : gm_R} {M0 : gm_M} {k : Nat → Nat → Nat → ck_AL → ck_AS → Nat → ck_F → Bool}
theorem ck_gr0 {k : Nat} {j : Int} (x : Int) {L : gm_L} {M : gm_M} (h : M k j = x := by rfl) : ck_gr L M (some (.inr (.inl (k, j, 0)))) (gm_vi x) := by
  show gm_vi x = gm_vi (M k j + 0)
  rw [Int.add_zero, h]
theorem ck_j_get {ix : Nat}  (hat : gm_at mi pc = some (.getfield ix)) (hS : ck_St O σ W n0 K0 R0 M0 AL AS F L st n K R M) (hk : ck_On O X LX σ mi d W n0 K0 R0 M0 (ck_Q O σ0 W n0 K0 R0 M0 outs) k) (h : ck_j O lx XF E mi d n0 W outs bc bs pc AL AS n F k (.getfield ix) = true) : gm_Wp X LX d bc bs mi pc L st n K R M (ck_Q O σ0 W n0 K0 R0 M0 outs) := by
  rcases AS with _ | ⟨⟨a | a | r | c, s⟩, AS⟩ <;> (try exact absurd (show false = true from h) Bool.false_ne_true)
  obtain ⟨f1, f2, f3, f4, f5⟩ := hS
  obtain ⟨st, rfl, hst⟩ := ck_qr f3
  unfold ck_j at h
  dsimp only at h
  cases hq : ck_kd O F r with
  | none => rw [hq] at h; cases h
  | some q =>
    rw [hq] at h
    dsimp only at h
    obtain ⟨h1, h2⟩ := ck_kd_s f1 f4 hq
    cases hj : gm_fld (gm_ow mi) ix (q.1 - 4) with
    | none => rw [hj] at h; cases h
    | some j =>
      rw [hj] at h
      dsimp only at h
      rw [Bool.and_eq_true, decide_eq_true_eq] at h
      obtain ⟨h3, h⟩ := h
      have hg := gm_p_get (X := X) (LX := LX) (d := d) (L := L) (st := st) (n := n) (K := K) (R := R) (M := M) hat h1 (show (K r).1 = (q.1 - 4) + 4 by rw [h2]; omega) hj
      split at h
      · rename_i e
        rw [if_pos e] at hg
        cases hv : ck_fR O F r j with
        | none => rw [hv] at h; cases h
        | some v =>
          rw [hv] at h
          obtain ⟨-, h5⟩ := ck_fR_s f1 f4 hv
          rw [h5] at hg
          exact gm_sz hg (hk _ _ _ _ _ _ _ _ _ _ _ _ h ⟨f1, f2, ck_pr hst, f4, f5⟩)
      · rename_i e
        rw [if_neg e] at hg
        cases hf : ck_fi F r j j with
        | some a =>
          rw [hf] at h
          have h5 := (ck_fi_s f4 hf).2 j (Int.le_refl _) (Int.le_refl _)
          exact gm_sz hg (hk _ _ _ _ _ _ _ _ _ _ _ _ h ⟨f1, f2, ck_pi h5.1 h5.2 (s := some (.inr (.inl (r, (j : Int), 0)))) (ck_gr0 _) hst, f4, f5⟩)
        | none =>
          rw [hf] at h
          dsimp only at h
          cases ht : gm_tyr O r j j with
          | some t =>
            rw [ht] at h
            have h5 := (gm_tyr_s f1 ht).2 j (Int.le_refl _) (Int.le_refl _)
            exact gm_sz hg (hk _ _ _ _ _ _ _ _ _ _ _ _ h ⟨f1, f2, ck_pi (a := (t.1, t.2, [])) h5.1 ⟨h5.2.1, h5.2.2, fun _ h => nomatch h⟩ (s := some (.inr (.inl (r, (j : Int), 0)))) (ck_gr0 _) hst, ck_tf_s f1 f4 ht, f5⟩)
          | none =>
            rw [ht] at h
            exact gm_sz hg (ck_nv (hk _ _ _ _ _ _ _ _ _ _ _ _ h ⟨f1, f2, ck_pi (ck_w_ir _) (ck_top_s _) (s := none) trivial hst, f4, f5⟩))
theorem ck_j_put {ix : Nat}  (hat : gm_at mi pc = some (.putfield ix)) (hS : ck_St O σ W n0 K0 R0 M0 AL AS F L st n K R M) (hk : ck_On O X LX σ mi d W n0 K0 R0 M0 (ck_Q O σ0 W n0 K0 R0 M0 outs) k) (h : ck_j O lx XF E mi d n0 W outs bc bs pc AL AS n F k (.putfield ix) = true) : gm_Wp X LX d bc bs mi pc L st n K R M (ck_Q O σ0 W n0 K0 R0 M0 outs) := by
  rcases AS with _ | ⟨⟨a | a | v | c, s⟩, _ | ⟨⟨b | b | r | c', t⟩, AS⟩⟩ <;> (try exact absurd (show false = true from h) Bool.false_ne_true)
  · obtain ⟨f1, f2, f3, f4, f5⟩ := hS
    obtain ⟨x, st, rfl, hx, ha, hsx, hst⟩ := ck_qi f3
    obtain ⟨st, e0, hst'⟩ := ck_qr hst
    subst e0
    replace hst := hst'
    unfold ck_j at h
    dsimp only at h
    cases hq : ck_kd O F r with
    | none => rw [hq] at h; cases h
    | some q =>
      rw [hq] at h
      dsimp only at h
      obtain ⟨h1, h2⟩ := ck_kd_s f1 f4 hq
      cases hj : gm_fld (gm_ow mi) ix (q.1 - 4) with
      | none => rw [hj] at h; cases h
      | some j =>
        rw [hj] at h
        dsimp only at h
        cases hgp : ck_gp O F r j s a with
        | some g =>
          rw [hgp] at h
          dsimp only at h
          simp only [Bool.and_eq_true, decide_eq_true_eq, beq_iff_eq] at h
          obtain ⟨⟨h3, h4, h5, h6, h7, h8⟩, h⟩ := h
          obtain ⟨M', m1, m2, m3, m4⟩ := ck_gF_s f1 f4 f5 hx ha hsx hgp h1.2 ⟨h5, h6, h7⟩
          exact gm_sz (gm_p_puti hat h1 (show (K r).1 = (q.1 - 4) + 4 by rw [h2]; omega) hj h4 (.inl h8)) (gm_Wp_g m1 (hk _ _ _ _ _ _ _ _ _ _ _ _ h ⟨m2, f2, ck_sh_s hst, m3, m4⟩))
        | none =>
        rw [hgp] at h
        dsimp only at h
        simp only [Bool.and_eq_true, Bool.or_eq_true, decide_eq_true_eq, beq_iff_eq, Option.isNone_iff_eq_none] at h
        obtain ⟨⟨h3, h4, h5, h6, h7⟩, h⟩ := h
        have hfit : gm_fk (q.1 - 4) j = 0 ∨ gm_fk (q.1 - 4) j = 1 ∧ (x = 0 ∨ x = 1) := by
          rcases h7 with h7 | ⟨h7, h8, h9⟩
          · exact .inl h7
          · refine .inr ⟨h7, ?_⟩
            have := ha.1
            have := ha.2.1
            omega
        exact gm_sz (gm_p_puti hat h1 (show (K r).1 = (q.1 - 4) + 4 by rw [h2]; omega) hj h4 hfit) (hk _ _ _ _ _ _ _ _ _ _ _ _ h ⟨gm_Fx_M f1 h5 (Int.le_refl _) (Int.le_refl _) ha.1 ha.2.1, f2, ck_sh_s hst, ck_upT_s f4 h1.2 (Int.le_refl _) (Int.le_refl _) hx ha, ck_fr_M f5 h6 (Int.le_refl _) (Int.le_refl _)⟩)
  · obtain ⟨f1, f2, f3, f4, f5⟩ := hS
    obtain ⟨st, rfl, hst⟩ := ck_qr f3
    obtain ⟨st, e0, hst'⟩ := ck_qr hst
    subst e0
    replace hst := hst'
    unfold ck_j at h
    dsimp only at h
    cases hq : ck_kd O F r with
    | none => rw [hq] at h; cases h
    | some q =>
      rw [hq] at h
      dsimp only at h
      obtain ⟨h1, h2⟩ := ck_kd_s f1 f4 hq
      cases hj : gm_fld (gm_ow mi) ix (q.1 - 4) with
      | none => rw [hj] at h; cases h
      | some j =>
        rw [hj] at h
        dsimp only at h
        simp only [Bool.and_eq_true, decide_eq_true_eq, beq_iff_eq, Option.isNone_iff_eq_none] at h
        obtain ⟨⟨h3, h4, h5, h6, h7⟩, h⟩ := h
        exact gm_sz (gm_p_putr hat h1 (show (K r).1 = (q.1 - 4) + 4 by rw [h2]; omega) hj h4 h7) (hk _ _ _ _ _ _ _ _ _ _ _ _ h ⟨gm_Fx_R f1 h5, f2, hst, ck_upR_s f4 h1.2, ck_fr_R f5 h6⟩)
theorem ck_j_iald  (hX : ck_OkX σ X XF) (hlx : ∀ l, lx = some l → l = LX) (hat : gm_at mi pc = some (.iaload)) (hS : ck_St O σ W n0 K0 R0 M0 AL AS F L st n K R M) (hk : ck_On O X LX σ mi d W n0 K0 R0 M0 (ck_Q O σ0 W n0 K0 R0 M0 outs) k) (h : ck_j O lx XF E mi d n0 W outs bc bs pc AL AS n F k (.iaload) = true) : gm_Wp X LX d bc bs mi pc L st n K R M (ck_Q O σ0 W n0 K0 R0 M0 outs) := by
  rcases AS with _ | ⟨⟨e | e | r | c, t⟩, _ | ⟨⟨a | a | r | c, s⟩, AS⟩⟩ <;> (try exact absurd (show false = true from h) Bool.false_ne_true)
  · obtain ⟨f1, f2, f3, f4, f5⟩ := hS
    obtain ⟨i, st, rfl, hi, he, -, hst⟩ := ck_qi f3
    obtain ⟨st, e0, hst'⟩ := ck_qr hst
    subst e0
    replace hst := hst'
    unfold ck_j at h
    dsimp only at h
    cases hq : ck_kd O F r with
    | none => rw [hq] at h; cases h
    | some q =>
      rw [hq] at h
      dsimp only at h
      obtain ⟨h1, h2⟩ := ck_kd_s f1 f4 hq
      rw [Bool.and_eq_true] at h
      obtain ⟨h0, h⟩ := h
      simp only [Bool.and_eq_true, beq_iff_eq, decide_eq_true_eq] at h0
      obtain ⟨h3, h4, h5⟩ := h0
      have hi1 := he.1
      have hi2 := he.2.1
      have hg := gm_p_iald (X := X) (LX := LX) (d := d) (L := L) (st := st) (n := n) (K := K) (R := R) (M := M) (e0 := i) hat h1 (by rw [h2]; exact h3) (by rw [gm_ir_w hi, h2]; omega)
      rw [gm_ir_w hi] at hg
      cases hf : ck_fi F r e.1 e.2.1 with
      | some a =>
        rw [hf] at h
        have h6 := (ck_fi_s f4 hf).2 i hi1 hi2
        refine gm_sz hg (hk _ _ _ _ _ _ _ _ _ _ _ _ h ⟨f1, f2, ck_pi h6.1 h6.2 ?_ hst, f4, f5⟩)
        split
        · rename_i e9
          have := ck_sg_s he e9
          subst this
          exact ck_gr0 _
        · exact trivial
      | none =>
        rw [hf] at h
        dsimp only at h
        cases ht : gm_tyr O r e.1 e.2.1 with
        | none =>
          rw [ht] at h
          exact gm_sz hg (ck_nv (hk _ _ _ _ _ _ _ _ _ _ _ _ h ⟨f1, f2, ck_pi (ck_w_ir _) (ck_top_s _) (s := none) trivial hst, f4, f5⟩))
        | some t =>
          rw [ht] at h
          dsimp only at h
          have h6 := (gm_tyr_s f1 ht).2 i hi1 hi2
          split at h
          · rename_i e9
            have e8 := ck_sg_s he e9
            have e7 : e.2.1 = e.1 := by
              unfold ck_sg at e9
              exact (of_decide_eq_true e9).symm
            rw [e7] at ht
            refine gm_sz hg (hk _ _ _ _ _ _ _ _ _ _ _ _ h ⟨f1, f2, ck_pi (a := (t.1, t.2, [])) h6.1 ⟨h6.2.1, h6.2.2, fun _ h => nomatch h⟩ (s := some (.inr (.inl (r, e.1, 0)))) ?_ hst, ck_tf_s f1 f4 ht, f5⟩)
            subst e8
            exact ck_gr0 _
          · exact gm_sz hg (hk _ _ _ _ _ _ _ _ _ _ _ _ h ⟨f1, f2, ck_pi (a := (t.1, t.2, [])) h6.1 ⟨h6.2.1, h6.2.2, fun _ h => nomatch h⟩ (s := none) trivial hst, f4, f5⟩)
  · obtain ⟨f1, f2, f3, f4, f5⟩ := hS
    obtain ⟨i, st, rfl, hi, he, -, hst⟩ := ck_qi f3
    obtain ⟨st, e0, hst'⟩ := ck_qo hst
    subst e0
    replace hst := hst'
    unfold ck_j at h
    dsimp only at h
    cases hl9 : lx with
    | none => rw [hl9] at h; cases h
    | some l =>
    have hl8 := hlx l hl9
    subst hl8
    rw [hl9] at h
    dsimp only at h
    rw [Bool.and_eq_true] at h
    obtain ⟨h0, h⟩ := h
    simp only [Bool.and_eq_true, beq_iff_eq, decide_eq_true_eq] at h0
    obtain ⟨h3, h4, h5⟩ := h0
    subst h3
    have hi1 := he.1
    have hi2 := he.2.1
    have hg := gm_p_sald (X := X) (LX := l) (d := d) (L := L) (st := st) (n := n) (K := K) (R := R) (M := M) (e0 := i) hat (by rw [gm_ir_w hi]; omega)
    rw [gm_ir_w hi] at hg
    cases hf : XF.find? fun q => decide (q.1 ≤ e.1) && decide (e.2.1 ≤ q.2.1) with
    | some q =>
      rw [hf] at h
      have h6 := List.find?_some hf
      simp only [Bool.and_eq_true, decide_eq_true_eq] at h6
      have h7 := hX q (List.mem_of_find?_eq_some hf) i (by omega) (by omega)
      exact gm_sz hg (hk _ _ _ _ _ _ _ _ _ _ _ _ h ⟨f1, f2, ck_pi h7.1 h7.2 (s := none) trivial hst, f4, f5⟩)
    | none =>
      rw [hf] at h
      exact gm_sz hg (ck_nv (hk _ _ _ _ _ _ _ _ _ _ _ _ h ⟨f1, f2, ck_pi (ck_w_ir _) (ck_top_s _) (s := none) trivial hst, f4, f5⟩))
theorem ck_j_bald   (hat : gm_at mi pc = some (.baload)) (hS : ck_St O σ W n0 K0 R0 M0 AL AS F L st n K R M) (hk : ck_On O X LX σ mi d W n0 K0 R0 M0 (ck_Q O σ0 W n0 K0 R0 M0 outs) k) (h : ck_j O lx XF E mi d n0 W outs bc bs pc AL AS n F k (.baload) = true) : gm_Wp X LX d bc bs mi pc L st n K R M (ck_Q O σ0 W n0 K0 R0 M0 outs) := by
  rcases AS with _ | ⟨⟨e | e | r | c, t⟩, _ | ⟨⟨a | a | r | c, s⟩, AS⟩⟩ <;> (try exact absurd (show false = true from h) Bool.false_ne_true)
  · obtain ⟨f1, f2, f3, f4, f5⟩ := hS
    obtain ⟨i, st, rfl, hi, he, -, hst⟩ := ck_qi f3
    obtain ⟨st, e0, hst'⟩ := ck_qr hst
    subst e0
    replace hst := hst'
    unfold ck_j at h
    dsimp only at h
    cases hq : ck_kd O F r with
    | none => rw [hq] at h; cases h
    | some q =>
      rw [hq] at h
      dsimp only at h
      obtain ⟨h1, h2⟩ := ck_kd_s f1 f4 hq
      rw [Bool.and_eq_true] at h
      obtain ⟨h0, h⟩ := h
      simp only [Bool.and_eq_true, beq_iff_eq, decide_eq_true_eq] at h0
      obtain ⟨h3, h4, h5⟩ := h0
      have hi1 := he.1
      have hi2 := he.2.1
      have hg := gm_p_bald (X := X) (LX := LX) (d := d) (L := L) (st := st) (n := n) (K := K) (R := R) (M := M) (e0 := i) hat h1 (by rw [h2]; exact h3) (by rw [gm_ir_w hi, h2]; omega)
      rw [gm_ir_w hi] at hg
      cases hf : ck_fi F r e.1 e.2.1 with
      | some a =>
        rw [hf] at h
        have h6 := (ck_fi_s f4 hf).2 i hi1 hi2
        refine gm_sz hg (hk _ _ _ _ _ _ _ _ _ _ _ _ h ⟨f1, f2, ck_pi h6.1 h6.2 ?_ hst, f4, f5⟩)
        split
        · rename_i e9
          have := ck_sg_s he e9
          subst this
          exact ck_gr0 _
        · exact trivial
      | none =>
        rw [hf] at h
        dsimp only at h
        cases ht : gm_tyr O r e.1 e.2.1 with
        | none =>
          rw [ht] at h
          exact gm_sz hg (ck_nv (hk _ _ _ _ _ _ _ _ _ _ _ _ h ⟨f1, f2, ck_pi (ck_w_ir _) (ck_top_s _) (s := none) trivial hst, f4, f5⟩))
        | some t =>
          rw [ht] at h
          dsimp only at h
          have h6 := (gm_tyr_s f1 ht).2 i hi1 hi2
          split at h
          · rename_i e9
            have e8 := ck_sg_s he e9
            have e7 : e.2.1 = e.1 := by
              unfold ck_sg at e9
              exact (of_decide_eq_true e9).symm
            rw [e7] at ht
            refine gm_sz hg (hk _ _ _ _ _ _ _ _ _ _ _ _ h ⟨f1, f2, ck_pi (a := (t.1, t.2, [])) h6.1 ⟨h6.2.1, h6.2.2, fun _ h => nomatch h⟩ (s := some (.inr (.inl (r, e.1, 0)))) ?_ hst, ck_tf_s f1 f4 ht, f5⟩)
            subst e8
            exact ck_gr0 _
          · exact gm_sz hg (hk _ _ _ _ _ _ _ _ _ _ _ _ h ⟨f1, f2, ck_pi (a := (t.1, t.2, [])) h6.1 ⟨h6.2.1, h6.2.2, fun _ h => nomatch h⟩ (s := none) trivial hst, f4, f5⟩)
theorem ck_j_lald   (hat : gm_at mi pc = some (.laload)) (hS : ck_St O σ W n0 K0 R0 M0 AL AS F L st n K R M) (hk : ck_On O X LX σ mi d W n0 K0 R0 M0 (ck_Q O σ0 W n0 K0 R0 M0 outs) k) (h : ck_j O lx XF E mi d n0 W outs bc bs pc AL AS n F k (.laload) = true) : gm_Wp X LX d bc bs mi pc L st n K R M (ck_Q O σ0 W n0 K0 R0 M0 outs) := by
  rcases AS with _ | ⟨⟨e | e | r | c, t⟩, _ | ⟨⟨a | a | r | c, s⟩, AS⟩⟩ <;> (try exact absurd (show false = true from h) Bool.false_ne_true)
  · obtain ⟨f1, f2, f3, f4, f5⟩ := hS
    obtain ⟨i, st, rfl, hi, he, -, hst⟩ := ck_qi f3
    obtain ⟨st, e0, hst'⟩ := ck_qr hst
    subst e0
    replace hst := hst'
    unfold ck_j at h
    dsimp only at h
    cases hq : ck_kd O F r with
    | none => rw [hq] at h; cases h
    | some q =>
      rw [hq] at h
      dsimp only at h
      obtain ⟨h1, h2⟩ := ck_kd_s f1 f4 hq
      rw [Bool.and_eq_true] at h
      obtain ⟨h0, h⟩ := h
      simp only [Bool.and_eq_true, beq_iff_eq, decide_eq_true_eq] at h0
      obtain ⟨h3, h4, h5⟩ := h0
      have hi1 := he.1
      have hi2 := he.2.1
      have hg := gm_p_lald (X := X) (LX := LX) (d := d) (L := L) (st := st) (n := n) (K := K) (R := R) (M := M) (e0 := i) hat h1 (by rw [h2]; exact h3) (by rw [gm_ir_w hi, h2]; omega)
      rw [gm_ir_w hi] at hg
      cases hf : ck_fi F r e.1 e.2.1 with
      | some a =>
        rw [hf] at h
        have h6 := (ck_fi_s f4 hf).2 i hi1 hi2
        exact gm_sz hg (hk _ _ _ _ _ _ _ _ _ _ _ _ h ⟨f1, f2, ck_pl (ck_r6_i h6.1) h6.2 hst, f4, f5⟩)
      | none =>
        rw [hf] at h
        exact gm_sz hg (ck_nv6 (hk _ _ _ _ _ _ _ _ _ _ _ _ h ⟨f1, f2, ck_pl (ck_r6_w _) (ck_tp6_s (ck_r6_w _)) hst, f4, f5⟩))
theorem ck_j_aald   (hat : gm_at mi pc = some (.aaload)) (hS : ck_St O σ W n0 K0 R0 M0 AL AS F L st n K R M) (hk : ck_On O X LX σ mi d W n0 K0 R0 M0 (ck_Q O σ0 W n0 K0 R0 M0 outs) k) (h : ck_j O lx XF E mi d n0 W outs bc bs pc AL AS n F k (.aaload) = true) : gm_Wp X LX d bc bs mi pc L st n K R M (ck_Q O σ0 W n0 K0 R0 M0 outs) := by
  rcases AS with _ | ⟨⟨e | e | r | c, t⟩, _ | ⟨⟨a | a | r | c, s⟩, AS⟩⟩ <;> (try exact absurd (show false = true from h) Bool.false_ne_true)
  obtain ⟨f1, f2, f3, f4, f5⟩ := hS
  obtain ⟨i, st, rfl, hi, he, -, hst⟩ := ck_qi f3
  obtain ⟨st, e0, hst'⟩ := ck_qr hst
  subst e0
  replace hst := hst'
  unfold ck_j at h
  dsimp only at h
  cases hq : ck_kd O F r with
  | none => rw [hq] at h; cases h
  | some q =>
    rw [hq] at h
    dsimp only at h
    obtain ⟨h1, h2⟩ := ck_kd_s f1 f4 hq
    rw [Bool.and_eq_true] at h
    obtain ⟨h0, h⟩ := h
    simp only [Bool.and_eq_true, beq_iff_eq, decide_eq_true_eq] at h0
    obtain ⟨h3, h4, h5, h6⟩ := h0
    have he1 := he.1
    have he2 := he.2.1
    have hg := gm_p_aald (X := X) (LX := LX) (d := d) (L := L) (st := st) (n := n) (K := K) (R := R) (M := M) (e0 := i) hat h1 (by rw [h2]; exact h3) (by rw [gm_ir_w hi, h2]; omega)
    rw [gm_ir_w hi] at hg
    have h7 := List.all_eq_true.mp h (i - e.1).toNat (List.mem_range.mpr (by omega))
    have h8 : e.1 + ((i - e.1).toNat : Int) = i := by omega
    rw [h8] at h7
    cases hf : ck_fR O F r i with
    | some v =>
      rw [hf] at h7
      rw [(ck_fR_s f1 f4 hf).2] at hg
      exact gm_sz hg (hk _ _ _ _ _ _ _ _ _ _ _ _ h7 ⟨f1, f2, ck_pr hst, f4, f5⟩)
    | none =>
      rw [hf] at h7
      cases h7
theorem ck_j_iast   (hat : gm_at mi pc = some (.iastore)) (hS : ck_St O σ W n0 K0 R0 M0 AL AS F L st n K R M) (hk : ck_On O X LX σ mi d W n0 K0 R0 M0 (ck_Q O σ0 W n0 K0 R0 M0 outs) k) (h : ck_j O lx XF E mi d n0 W outs bc bs pc AL AS n F k (.iastore) = true) : gm_Wp X LX d bc bs mi pc L st n K R M (ck_Q O σ0 W n0 K0 R0 M0 outs) := by
  rcases AS with _ | ⟨⟨a | a | v | c, t⟩, _ | ⟨⟨e | e | r | c, s⟩, _ | ⟨⟨b | b | r | c, s'⟩, AS⟩⟩⟩ <;> (try exact absurd (show false = true from h) Bool.false_ne_true)
  · obtain ⟨f1, f2, f3, f4, f5⟩ := hS
    obtain ⟨x, st, rfl, hx, ha, -, hst⟩ := ck_qi f3
    obtain ⟨i, st, rfl, hi, he, -, hst⟩ := ck_qi hst
    obtain ⟨st, e0, hst'⟩ := ck_qr hst
    subst e0
    replace hst := hst'
    unfold ck_j at h
    dsimp only at h
    cases hq : ck_kd O F r with
    | none => rw [hq] at h; cases h
    | some q =>
      rw [hq] at h
      dsimp only at h
      obtain ⟨h1, h2⟩ := ck_kd_s f1 f4 hq
      rw [Bool.and_eq_true] at h
      obtain ⟨h0, h⟩ := h
      simp only [Bool.and_eq_true, beq_iff_eq, decide_eq_true_eq] at h0
      obtain ⟨h3, h4, h5, h6, ht⟩ := h0
      have hi1 := he.1
      have hi2 := he.2.1
      have hg := gm_p_iast (X := X) (LX := LX) (d := d) (L := L) (st := st) (n := n) (K := K) (R := R) (M := M) (e0 := i) (x := x) hat h1 (by rw [h2]; exact h3) (by rw [gm_ir_w hi, h2]; omega)
      rw [gm_ir_w hi] at hg
      exact gm_sz hg (hk _ _ _ _ _ _ _ _ _ _ _ _ h ⟨gm_Fx_M f1 ht hi1 hi2 ha.1 ha.2.1, f2, ck_sh_s hst, ck_upT_s f4 h1.2 hi1 hi2 hx ha, ck_fr_M f5 h6 hi1 hi2⟩)
theorem ck_j_bast   (hat : gm_at mi pc = some (.bastore)) (hS : ck_St O σ W n0 K0 R0 M0 AL AS F L st n K R M) (hk : ck_On O X LX σ mi d W n0 K0 R0 M0 (ck_Q O σ0 W n0 K0 R0 M0 outs) k) (h : ck_j O lx XF E mi d n0 W outs bc bs pc AL AS n F k (.bastore) = true) : gm_Wp X LX d bc bs mi pc L st n K R M (ck_Q O σ0 W n0 K0 R0 M0 outs) := by
  rcases AS with _ | ⟨⟨a | a | v | c, t⟩, _ | ⟨⟨e | e | r | c, s⟩, _ | ⟨⟨b | b | r | c, s'⟩, AS⟩⟩⟩ <;> (try exact absurd (show false = true from h) Bool.false_ne_true)
  · obtain ⟨f1, f2, f3, f4, f5⟩ := hS
    obtain ⟨x, st, rfl, hx, ha, -, hst⟩ := ck_qi f3
    obtain ⟨i, st, rfl, hi, he, -, hst⟩ := ck_qi hst
    obtain ⟨st, e0, hst'⟩ := ck_qr hst
    subst e0
    replace hst := hst'
    unfold ck_j at h
    dsimp only at h
    cases hq : ck_kd O F r with
    | none => rw [hq] at h; cases h
    | some q =>
      rw [hq] at h
      dsimp only at h
      obtain ⟨h1, h2⟩ := ck_kd_s f1 f4 hq
      rw [Bool.and_eq_true] at h
      obtain ⟨h0, h⟩ := h
      simp only [Bool.and_eq_true, beq_iff_eq, decide_eq_true_eq] at h0
      obtain ⟨h3, h4, h5, h6, ht⟩ := h0
      have hi1 := he.1
      have hi2 := he.2.1
      have hg := gm_p_bast (X := X) (LX := LX) (d := d) (L := L) (st := st) (n := n) (K := K) (R := R) (M := M) (e0 := i) (x := x) hat h1 (by rw [h2]; exact h3) (by rw [gm_ir_w hi, h2]; omega)
      rw [gm_ir_w hi] at hg
      have hb0 : -128 ≤ gm_wb x ∧ gm_wb x ≤ 127 := by unfold gm_wb; omega
      have hFb : gm_Fx O n K R (gm_uM M r i (gm_wb x)) := by
        split at ht
        · rename_i e9
          have h9 : gm_wb x = x := by
            have := ha.1
            have := ha.2.1
            unfold gm_wb
            omega
          rw [h9]
          exact gm_Fx_M f1 ht hi1 hi2 ha.1 ha.2.1
        · exact gm_Fx_M f1 ht hi1 hi2 hb0.1 hb0.2
      refine gm_sz hg (hk _ _ _ _ _ _ _ _ _ _ _ _ h ⟨hFb, f2, ck_sh_s hst, ck_upT_s f4 h1.2 hi1 hi2 (by unfold gm_ir; omega) ?_, ck_fr_M f5 h6 hi1 hi2⟩)
      split
      · rename_i e9
        have h9 : gm_wb x = x := by
          have := ha.1
          have := ha.2.1
          unfold gm_wb
          omega
        rw [h9]
        exact ha
      · exact ⟨hb0.1, hb0.2, ck_gt_none⟩
theorem ck_j_last   (hat : gm_at mi pc = some (.lastore)) (hS : ck_St O σ W n0 K0 R0 M0 AL AS F L st n K R M) (hk : ck_On O X LX σ mi d W n0 K0 R0 M0 (ck_Q O σ0 W n0 K0 R0 M0 outs) k) (h : ck_j O lx XF E mi d n0 W outs bc bs pc AL AS n F k (.lastore) = true) : gm_Wp X LX d bc bs mi pc L st n K R M (ck_Q O σ0 W n0 K0 R0 M0 outs) := by
  rcases AS with _ | ⟨⟨a | a | v | c, t⟩, _ | ⟨⟨e | e | r | c, s⟩, _ | ⟨⟨b | b | r | c, s'⟩, AS⟩⟩⟩ <;> (try exact absurd (show false = true from h) Bool.false_ne_true)
  · obtain ⟨f1, f2, f3, f4, f5⟩ := hS
    obtain ⟨x, st, rfl, hx, ha, hst⟩ := ck_ql f3
    obtain ⟨i, st, rfl, hi, he, -, hst⟩ := ck_qi hst
    obtain ⟨st, e0, hst'⟩ := ck_qr hst
    subst e0
    replace hst := hst'
    unfold ck_j at h
    dsimp only at h
    cases hq : ck_kd O F r with
    | none => rw [hq] at h; cases h
    | some q =>
      rw [hq] at h
      dsimp only at h
      obtain ⟨h1, h2⟩ := ck_kd_s f1 f4 hq
      rw [Bool.and_eq_true] at h
      obtain ⟨h0, h⟩ := h
      simp only [Bool.and_eq_true, beq_iff_eq, decide_eq_true_eq] at h0
      obtain ⟨h3, h4, h5, h6, ht⟩ := h0
      have hi1 := he.1
      have hi2 := he.2.1
      have hg := gm_p_last (X := X) (LX := LX) (d := d) (L := L) (st := st) (n := n) (K := K) (R := R) (M := M) (e0 := i) (x := x) hat h1 (by rw [h2]; exact h3) (by rw [gm_ir_w hi, h2]; omega)
      rw [gm_ir_w hi] at hg
      split at h
      · rename_i e9
        exact gm_sz hg (hk _ _ _ _ _ _ _ _ _ _ _ _ h ⟨gm_Fx_E f1 (by rw [Bool.and_eq_true]; exact ht), f2, ck_sh_s hst, ck_up_s f4 h1.2 hi1 hi2 (ck_in_s ha e9) ha, ck_fr_M f5 h6 hi1 hi2⟩)
      · refine gm_sz hg (hk _ _ _ _ _ _ _ _ _ _ _ _ h ⟨gm_Fx_E f1 (by rw [Bool.and_eq_true]; exact ht), f2, ck_sh_s hst, ⟨f4.1, f4.2.1, fun p hp => ?_⟩, ck_fr_M f5 h6 hi1 hi2⟩)
        obtain ⟨h7, h8⟩ := List.mem_filter.mp hp
        have h9 := f4.2.2 p h7
        refine ⟨h9.1, fun j a1 a2 => ?_⟩
        unfold gm_uM
        rw [if_neg (by rintro ⟨rfl, -⟩; simp at h8)]
        exact h9.2 j a1 a2
theorem ck_j_aast   (hat : gm_at mi pc = some (.aastore)) (hS : ck_St O σ W n0 K0 R0 M0 AL AS F L st n K R M) (hk : ck_On O X LX σ mi d W n0 K0 R0 M0 (ck_Q O σ0 W n0 K0 R0 M0 outs) k) (h : ck_j O lx XF E mi d n0 W outs bc bs pc AL AS n F k (.aastore) = true) : gm_Wp X LX d bc bs mi pc L st n K R M (ck_Q O σ0 W n0 K0 R0 M0 outs) := by
  rcases AS with _ | ⟨⟨a | a | v | c, t⟩, _ | ⟨⟨e | e | r | c, s⟩, _ | ⟨⟨b | b | r | c, s'⟩, AS⟩⟩⟩ <;> (try exact absurd (show false = true from h) Bool.false_ne_true)
  · obtain ⟨f1, f2, f3, f4, f5⟩ := hS
    obtain ⟨st, rfl, hst⟩ := ck_qr f3
    obtain ⟨i, st, rfl, hi, he, -, hst⟩ := ck_qi hst
    obtain ⟨st, e0, hst'⟩ := ck_qr hst
    subst e0
    replace hst := hst'
    unfold ck_j at h
    dsimp only at h
    split at h
    · rename_i q p hq hp
      obtain ⟨h1, h2⟩ := ck_kd_s f1 f4 hq
      obtain ⟨g1, g2⟩ := ck_kd_s f1 f4 hp
      rw [Bool.and_eq_true] at h
      obtain ⟨h0, h⟩ := h
      simp only [Bool.and_eq_true, beq_iff_eq, decide_eq_true_eq, Option.isNone_iff_eq_none] at h0
      obtain ⟨h3, h4, h5, h6, h7, h8, h9⟩ := h0
      have hi1 := ck_sg_s he h5
      have hg := gm_p_aast (X := X) (LX := LX) (d := d) (L := L) (st := st) (n := n) (K := K) (R := R) (M := M) (e0 := i) (r := v) (ci := 1) hat h1 (by rw [h2]; exact h3) (by rw [gm_ir_w hi, h2]; omega) g1 (by rw [g2]; exact h4) (by decide) gm_cn1
      rw [gm_ir_w hi] at hg
      rw [hi1] at hg ⊢
      exact gm_sz hg (hk _ _ _ _ _ _ _ _ _ _ _ _ h ⟨gm_Fx_R f1 h8, f2, hst, ck_upR_s f4 h1.2, ck_fr_R f5 h9⟩)
    · cases h
theorem ck_j_alen  (hlx : ∀ l, lx = some l → l = LX) (hat : gm_at mi pc = some (.arraylength)) (hS : ck_St O σ W n0 K0 R0 M0 AL AS F L st n K R M) (hk : ck_On O X LX σ mi d W n0 K0 R0 M0 (ck_Q O σ0 W n0 K0 R0 M0 outs) k) (h : ck_j O lx XF E mi d n0 W outs bc bs pc AL AS n F k (.arraylength) = true) : gm_Wp X LX d bc bs mi pc L st n K R M (ck_Q O σ0 W n0 K0 R0 M0 outs) := by
  rcases AS with _ | ⟨⟨a | a | r | c, s⟩, AS⟩ <;> (try exact absurd (show false = true from h) Bool.false_ne_true)
  · obtain ⟨f1, f2, f3, f4, f5⟩ := hS
    obtain ⟨st, rfl, hst⟩ := ck_qr f3
    unfold ck_j at h
    dsimp only at h
    cases hq : ck_kd O F r with
    | none => rw [hq] at h; cases h
    | some q =>
      rw [hq] at h
      dsimp only at h
      obtain ⟨h1, h2⟩ := ck_kd_s f1 f4 hq
      simp only [Bool.and_eq_true, decide_eq_true_eq] at h
      obtain ⟨⟨h3, h4⟩, h⟩ := h
      have hg := gm_p_alen (X := X) (LX := LX) (d := d) (L := L) (st := st) (n := n) (K := K) (R := R) (M := M) hat h1 (by rw [h2]; exact h3)
      rw [h2] at hg
      exact gm_sz hg (hk _ _ _ _ _ _ _ _ _ _ _ _ h ⟨f1, f2, ck_pi (ck_cvk_i h4) (ck_one_s _) (s := none) trivial hst, f4, f5⟩)
  · obtain ⟨f1, f2, f3, f4, f5⟩ := hS
    obtain ⟨st, rfl, hst⟩ := ck_qo f3
    unfold ck_j at h
    dsimp only at h
    cases hl9 : lx with
    | none => rw [hl9] at h; cases h
    | some l =>
    have hl8 := hlx l hl9
    subst hl8
    rw [hl9] at h
    dsimp only at h
    simp only [Bool.and_eq_true, beq_iff_eq] at h
    obtain ⟨⟨h3, h4⟩, h⟩ := h
    subst h3
    have hg := gm_p_slen (X := X) (LX := l) (d := d) (L := L) (st := st) (n := n) (K := K) (R := R) (M := M) hat
    have h9 : ck_gs σ L M ((.inl (ck_one (l : Int)), none) :: AS) (gm_vi (l : Int) :: st) := ck_pi (ck_cvk_i h4) (ck_one_s (l : Int)) (s := none) trivial hst
    exact gm_sz hg (hk bc bs (pc + 1) AL _ n F L _ K R M h ⟨f1, f2, h9, f4, f5⟩)
theorem ck_j_new {ix : Nat} (hs : ∀ s, s < 100 → σ s = σ0 s) (hat : gm_at mi pc = some (.new ix)) (hS : ck_St O σ W n0 K0 R0 M0 AL AS F L st n K R M) (hk : ck_On O X LX σ mi d W n0 K0 R0 M0 (ck_Q O σ0 W n0 K0 R0 M0 outs) k) (h : ck_j O lx XF E mi d n0 W outs bc bs pc AL AS n F k (.new ix) = true) : gm_Wp X LX d bc bs mi pc L st n K R M (ck_Q O σ0 W n0 K0 R0 M0 outs) := by
  obtain ⟨f1, f2, f3, f4, f5⟩ := hS
  unfold ck_j at h
  dsimp only at h
  cases hn : gm_new (gm_ow mi) ix with
  | some ci =>
    rw [hn] at h
    dsimp only at h
    simp only [Bool.and_eq_true, decide_eq_true_eq] at h
    obtain ⟨⟨⟨h1, h2⟩, h9⟩, h⟩ := h
    refine gm_sp (gm_p_new h9 hat hn) h1 h2 (hk _ _ _ _ _ _ _ _ _ _ _ _ h ⟨gm_Fx_n f1, f2, ?_, ck_new_s f4 ck_nlr, ck_fr_n f5⟩)
    exact ck_pr (ck_sh_s f3)
  | none =>
    rw [hn] at h
    dsimp only at h
    cases hx : gm_isx mi pc ix with
    | none => rw [hx] at h; cases h
    | some x =>
      rw [hx] at h
      dsimp only at h
      simp only [Bool.and_eq_true, decide_eq_true_eq, List.isEmpty_iff] at h
      obtain ⟨⟨hh, h1, h2, h3, h4⟩, h⟩ := h
      obtain ⟨ic, is, id, lw, a1, a2, a3, a4, a5, a6⟩ := gm_isx_of hx
      exact gm_throw hh hat a1 a2 a3 a4 a5 a6 (ck_sum8_s f3 h2) h1 h3 h4 (ck_end_s (how := .inl x) hs f1 f4 f5 rfl h)
theorem ck_j_newa {at0 : ArrayType}  (hat : gm_at mi pc = some (.newarray at0)) (hS : ck_St O σ W n0 K0 R0 M0 AL AS F L st n K R M) (hk : ck_On O X LX σ mi d W n0 K0 R0 M0 (ck_Q O σ0 W n0 K0 R0 M0 outs) k) (h : ck_j O lx XF E mi d n0 W outs bc bs pc AL AS n F k (.newarray at0) = true) : gm_Wp X LX d bc bs mi pc L st n K R M (ck_Q O σ0 W n0 K0 R0 M0 outs) := by
  unfold ck_j at h
  dsimp only at h
  split at h
  · rename_i e s AS kd hkd
    obtain ⟨f1, f2, f3, f4, f5⟩ := hS
    obtain ⟨x, st, rfl, hx, ha, -, hst⟩ := ck_qi f3
    simp only [Bool.and_eq_true, decide_eq_true_eq] at h
    obtain ⟨⟨h1, h2, h3, h4, h5, h9⟩, h⟩ := h
    have h6 := ck_sg_s ha h1
    subst h6
    have hkd2 : (at0 = .int ∧ kd = 0) ∨ (at0 = .byte ∧ kd = 1) ∨ (at0 = .long ∧ kd = 2) := by
      cases at0 <;> simp at hkd <;> subst hkd <;> simp
    have hg := gm_p_newa (X := X) (LX := LX) (d := d) (L := L) (st := st) (n := n) (K := K) (R := R) (M := M) (e0 := e.1) h9 hat hkd2 (by rw [gm_ir_w hx]; exact ⟨h2, h3⟩)
    rw [gm_ir_w hx] at hg
    exact gm_sp hg h4 h5 (hk _ _ _ _ _ _ _ _ _ _ _ _ h ⟨gm_Fx_n f1, f2, ck_pr (ck_sh_s hst), ck_new_s f4 ck_nl1, ck_fr_n f5⟩)
  · cases h
theorem ck_j_anew {ix : Nat}  (hat : gm_at mi pc = some (.anewarray ix)) (hS : ck_St O σ W n0 K0 R0 M0 AL AS F L st n K R M) (hk : ck_On O X LX σ mi d W n0 K0 R0 M0 (ck_Q O σ0 W n0 K0 R0 M0 outs) k) (h : ck_j O lx XF E mi d n0 W outs bc bs pc AL AS n F k (.anewarray ix) = true) : gm_Wp X LX d bc bs mi pc L st n K R M (ck_Q O σ0 W n0 K0 R0 M0 outs) := by
  rcases AS with _ | ⟨⟨a | a | r | c, s⟩, AS⟩ <;> (try exact absurd (show false = true from h) Bool.false_ne_true)
  obtain ⟨f1, f2, f3, f4, f5⟩ := hS
  obtain ⟨x, st, rfl, hx, ha, -, hst⟩ := ck_qi f3
  have h : ((decide (gm_new (gm_ow mi) ix = some 1) && (ck_sg a && (decide (0 ≤ a.1) && (decide (a.1 < 60000000) && (decide (1 ≤ bc) && (decide (a.1.toNat ≤ bs) && decide (n + 1 < 100000))))))) && k (bc - 1) (bs - a.1.toNat) (pc + 3) AL ((.inr (.inr (.inl (n + 1))), none) :: ck_sh AS) (n + 1) ((n + 1, 3, a.1.toNat) :: F.1, F.2.1, F.2.2)) = true := h
  simp only [Bool.and_eq_true, decide_eq_true_eq] at h
  obtain ⟨⟨h0, h1, h2, h3, h4, h5, h9⟩, h⟩ := h
  have h6 := ck_sg_s ha h1
  subst h6
  have hg := gm_p_anew (X := X) (LX := LX) (d := d) (L := L) (st := st) (n := n) (K := K) (R := R) (M := M) (e0 := a.1) h9 hat h0 gm_cn1 (by rw [gm_ir_w hx]; exact ⟨h2, h3⟩)
  rw [gm_ir_w hx] at hg
  exact gm_sp hg h4 h5 (hk _ _ _ _ _ _ _ _ _ _ _ _ h ⟨gm_Fx_n f1, f2, ck_pr (ck_sh_s hst), ck_new_s (l := []) f4 ck_nl0, ck_fr_n f5⟩)
theorem ck_j_ldc {ix : Nat}  (hat : gm_at mi pc = some (.ldc ix)) (hS : ck_St O σ W n0 K0 R0 M0 AL AS F L st n K R M) (hk : ck_On O X LX σ mi d W n0 K0 R0 M0 (ck_Q O σ0 W n0 K0 R0 M0 outs) k) (h : ck_j O lx XF E mi d n0 W outs bc bs pc AL AS n F k (.ldc ix) = true) : gm_Wp X LX d bc bs mi pc L st n K R M (ck_Q O σ0 W n0 K0 R0 M0 outs) := by
  obtain ⟨f1, f2, f3, f4, f5⟩ := hS
  unfold ck_j at h
  dsimp only at h
  cases hv : gm_ild (gm_ow mi) ix with
  | some q =>
    rw [hv] at h
    obtain ⟨q1, q2⟩ := q
    simp only [Bool.and_eq_true, beq_iff_eq] at h
    obtain ⟨⟨h1, h2⟩, h⟩ := h
    subst h1
    exact gm_sz (gm_p_ldci hat (.inl rfl) hv) (hk _ _ _ _ _ _ _ _ _ _ _ _ h ⟨f1, f2, ck_pi (ck_cvk_i h2) (ck_one_s _) (s := none) trivial f3, f4, f5⟩)
  | none =>
    rw [hv] at h
    dsimp only at h
    cases hw : gm_sld (gm_ow mi) ix with
    | some id =>
      rw [hw] at h
      exact gm_sz (gm_p_ldcs hat (.inl rfl) hw) (hk _ _ _ _ _ _ _ _ _ _ _ _ h ⟨f1, f2, ck_po f3, f4, f5⟩)
    | none => rw [hw] at h; cases h
theorem ck_j_ldc_w {ix : Nat}  (hat : gm_at mi pc = some (.ldc_w ix)) (hS : ck_St O σ W n0 K0 R0 M0 AL AS F L st n K R M) (hk : ck_On O X LX σ mi d W n0 K0 R0 M0 (ck_Q O σ0 W n0 K0 R0 M0 outs) k) (h : ck_j O lx XF E mi d n0 W outs bc bs pc AL AS n F k (.ldc_w ix) = true) : gm_Wp X LX d bc bs mi pc L st n K R M (ck_Q O σ0 W n0 K0 R0 M0 outs) := by
  obtain ⟨f1, f2, f3, f4, f5⟩ := hS
  unfold ck_j at h
  dsimp only at h
  cases hv : gm_ild (gm_ow mi) ix with
  | some q =>
    rw [hv] at h
    obtain ⟨q1, q2⟩ := q
    simp only [Bool.and_eq_true, beq_iff_eq] at h
    obtain ⟨⟨h1, h2⟩, h⟩ := h
    subst h1
    exact gm_sz (gm_p_ldci hat (.inr rfl) hv) (hk _ _ _ _ _ _ _ _ _ _ _ _ h ⟨f1, f2, ck_pi (ck_cvk_i h2) (ck_one_s _) (s := none) trivial f3, f4, f5⟩)
  | none =>
    rw [hv] at h
    dsimp only at h
    cases hw : gm_sld (gm_ow mi) ix with
    | some id =>
      rw [hw] at h
      exact gm_sz (gm_p_ldcs hat (.inr rfl) hw) (hk _ _ _ _ _ _ _ _ _ _ _ _ h ⟨f1, f2, ck_po f3, f4, f5⟩)
    | none => rw [hw] at h; cases h
theorem ck_j_ldcl {ix : Nat}  (hat : gm_at mi pc = some (.ldc2_w ix)) (hS : ck_St O σ W n0 K0 R0 M0 AL AS F L st n K R M) (hk : ck_On O X LX σ mi d W n0 K0 R0 M0 (ck_Q O σ0 W n0 K0 R0 M0 outs) k) (h : ck_j O lx XF E mi d n0 W outs bc bs pc AL AS n F k (.ldc2_w ix) = true) : gm_Wp X LX d bc bs mi pc L st n K R M (ck_Q O σ0 W n0 K0 R0 M0 outs) := by
  obtain ⟨f1, f2, f3, f4, f5⟩ := hS
  unfold ck_j at h
  dsimp only at h
  cases hv : gm_ild (gm_ow mi) ix with
  | some q =>
    rw [hv] at h
    obtain ⟨q1, q2⟩ := q
    simp only [Bool.and_eq_true, beq_iff_eq] at h
    obtain ⟨⟨h1, h2⟩, h⟩ := h
    subst h1
    exact gm_sz (gm_p_ldcl hat hv) (hk _ _ _ _ _ _ _ _ _ _ _ _ h ⟨f1, f2, ck_pl (ck_cvk_l h2) (ck_one_s _) f3, f4, f5⟩)
  | none => rw [hv] at h; cases h
theorem ck_j_stat {ix : Nat} (hE : ck_nmu O ∧ ck_OkE O X LX E) (hs : ∀ s, s < 100 → σ s = σ0 s) (hat : gm_at mi pc = some (.invokestatic ix)) (hS : ck_St O σ W n0 K0 R0 M0 AL AS F L st n K R M) (hk : ck_On O X LX σ mi d W n0 K0 R0 M0 (ck_Q O σ0 W n0 K0 R0 M0 outs) k) (h : ck_j O lx XF E mi d n0 W outs bc bs pc AL AS n F k (.invokestatic ix) = true) : gm_Wp X LX d bc bs mi pc L st n K R M (ck_Q O σ0 W n0 K0 R0 M0 outs) := by
  unfold ck_j at h
  dsimp only at h
  cases hc : gm_cal (gm_ow mi) ix with
  | none =>
    rw [hc] at h
    dsimp only at h
    rw [Bool.and_eq_true] at h
    obtain ⟨hac, h⟩ := h
    split at h
    · rename_i m s1 dp s2 k2 s3 sp s4 k1 s5 AS'
      split at h
      · rename_i q1 q2 e1 e2
        obtain ⟨f1, f2, f3, f4, f5⟩ := hS
        rw [Bool.and_eq_true] at h
        obtain ⟨h0, h⟩ := h
        simp only [Bool.and_eq_true, beq_iff_eq, decide_eq_true_eq] at h0
        obtain ⟨a1, a2, a3, a4, a5, a6, a7, a8, a9, a10, a11⟩ := h0
        obtain ⟨xm, st1, t1, im, gm1, -, g1⟩ := ck_qi f3
        subst t1
        obtain ⟨xd, st2, t2, id1, gd1, -, g2⟩ := ck_qi g1
        subst t2
        obtain ⟨st3, t3, g3⟩ := ck_qr g2
        subst t3
        obtain ⟨xs, st4, t4, is1, gs1, -, g4⟩ := ck_qi g3
        subst t4
        obtain ⟨st5, t5, g5⟩ := ck_qr g4
        subst t5
        obtain ⟨b1, b2⟩ := ck_kd_s f1 f4 e1
        obtain ⟨b3, b4⟩ := ck_kd_s f1 f4 e2
        have c1 := gm1.1
        have c2 := gm1.2.1
        have c3 := gd1.1
        have c4 := gd1.2.1
        have c5 := gs1.1
        have c6 := gs1.2.1
        have hg := gm_p_acopy (X := X) (LX := LX) (d := d) (L := L) (st := st5) (n := n) (K := K) (R := R) (M := M) (sp := xs) (dp := xd) (m := xm) hat hac b1 (by rw [b2]; exact a1) b3 (by rw [b4]; exact a2) (gm_ir_w is1) (gm_ir_w id1) (gm_ir_w im) (by omega) (by omega) (by omega) (by rw [b2]; omega) (by rw [b4]; omega) (ck_sum8_s g5 a9) a10
        refine gm_sz hg (hk _ _ _ _ _ _ _ _ _ _ _ _ h ⟨⟨f1.1, f1.2.1, fun a b hv => ?_, f1.2.2.2.1, O.2.2.hJ K K M _ (fun _ _ _ => rfl) (fun a b hv j j1 j2 => ?_) f1.2.2.2.2⟩, f2, ck_sh_s g5, ⟨f4.1, f4.2.1, fun p hp => ?_⟩, ⟨f5.1, f5.2.1, fun a b ha hb => ?_, f5.2.2.2⟩⟩)
        · obtain ⟨v1, v2⟩ := f1.2.2.1 a b hv
          refine ⟨v1, fun j j1 j2 => ?_⟩
          unfold gm_cpM
          split
          · rename_i q
            obtain ⟨rfl, q2, q3⟩ := q
            cases hr : ck_rd O F k1 sp.1 (sp.2.1 + m.2.1 - 1) with
            | none =>
              rw [hr] at a11
              rw [Bool.and_eq_true] at a11
              rw [List.isEmpty_iff.mp a11.1] at hv
              cases hv
            | some z =>
              rw [hr] at a11
              have z1 := (ck_rd_s f1 f4 hr).2 (xs + (j - xd)) (by omega) (by omega)
              dsimp only at a11
              rw [gm_tyw_def] at a11
              rw [Bool.and_eq_true] at a11
              have z2 := List.all_eq_true.mp a11.2 b hv
              simp only [Bool.or_eq_true, Bool.and_eq_true, decide_eq_true_eq] at z2
              have z3 := z1.2.1
              have z4 := z1.2.2.1
              refine ⟨z1.1, ?_, ?_⟩
              · rcases z2 with z2 | z2 | z2
                · omega
                · omega
                · omega
              · rcases z2 with z2 | z2 | z2
                · omega
                · omega
                · omega
          · exact v2 j j1 j2
        · unfold gm_cpM
          rw [if_neg]
          rintro ⟨rfl, q2, q3⟩
          cases hr : ck_rd O F k1 sp.1 (sp.2.1 + m.2.1 - 1) with
          | none =>
            rw [hr] at a11
            rw [Bool.and_eq_true] at a11
            rw [List.isEmpty_iff.mp a11.2] at hv
            cases hv
          | some z =>
            rw [hr] at a11
            dsimp only at a11
            rw [gm_tyw_def, gm_fpw_def] at a11
            rw [Bool.and_eq_true] at a11
            have z2 := List.all_eq_true.mp a11.1 b hv
            simp only [Bool.or_eq_true, decide_eq_true_eq] at z2
            omega
        · obtain ⟨r, hr, r1, r2, r3⟩ := ck_cws_s (ws := [(k2, dp.1, dp.2.1 + m.2.1 - 1)]) (l := F.2.2) hp
          have r4 := f4.2.2 r hr
          rw [r1, r2]
          refine ⟨r4.1, fun j j1 j2 => ?_⟩
          obtain ⟨r5, r6⟩ := r3 j j1 j2
          unfold gm_cpM
          rw [if_neg]
          · exact r4.2 j r5.1 r5.2
          · intro q
            exact r6 _ List.mem_cons_self ⟨q.1.symm, by dsimp only; omega, by dsimp only; omega⟩
        · rw [← f5.2.2.1 a b ha hb]
          unfold gm_cpM
          rw [if_neg]
          intro q
          rw [ck_okW_def] at a8
          simp only [Bool.or_eq_true, decide_eq_true_eq, List.any_eq_true, Bool.and_eq_true, beq_iff_eq] at a8
          rcases a8 with a8 | ⟨w, w1, w2, w3, w4⟩
          · have := q.1
            omega
          · exact hb w w1 ⟨w2.trans q.1.symm, by omega, by omega⟩
      · cases h
    · cases h
  | some q =>
    rw [hc] at h
    obtain ⟨kd, mj⟩ := q
    dsimp only at h
    by_cases e5 : kd = 5
    · subst e5
      rw [if_pos rfl, Bool.and_eq_true] at h
      obtain ⟨h2, h⟩ := h
      simp only [Bool.and_eq_true, decide_eq_true_eq, List.isEmpty_iff, Bool.not_eq_true', List.isEmpty_eq_false_iff] at h2
      obtain ⟨hh, hhj, e1, e3, e4, e5, e6⟩ := h2
      obtain ⟨t1, t2, t3, t4⟩ := ck_take (m := gm_na mj) hS.2.2.1
      refine ck_call_s (pc' := pc + 3) hs hE hS t2 t4 hk (fun d' bc' bs' a1 a2 a3 a4 => ?_) h
      have := gm_c_statX (bc := bc) (bs := bs) hat hc e1 hh hhj (as := (st.take (gm_na mj)).reverse) (st := st.drop (gm_na mj)) (by rw [List.length_reverse, t1]; exact e3) (t3 e4) (by rw [List.length_reverse, t1, e3]; exact e5) (ck_sum8_s t4 e6) a1 a2 a3 (gm_Wp_mono (fun o n K R M hq => gm_cont_H hh hq) a4)
      rw [List.reverse_reverse, List.take_append_drop] at this
      exact this
    rw [if_neg e5] at h
    rw [Bool.and_eq_true] at h
    obtain ⟨h0, h⟩ := h
    simp only [Bool.and_eq_true, beq_iff_eq, decide_eq_true_eq] at h0
    obtain ⟨rfl, h1⟩ := h0
    split at h
    · rename_i e
      subst e
      rcases AS with _ | ⟨⟨b | b | r | c, t⟩, _ | ⟨⟨a | a | r' | c', s⟩, AS⟩⟩ <;> (try cases h)
      obtain ⟨f1, f2, f3, f4, f5⟩ := hS
      obtain ⟨y, st, rfl, hy, hb, -, hst⟩ := ck_qi f3
      obtain ⟨x, st, rfl, hx, ha, -, hst⟩ := ck_qi hst
      dsimp only at h
      rw [Bool.and_eq_true] at h
      obtain ⟨a1, a2, -⟩ := ha
      obtain ⟨b1, b2, -⟩ := hb
      refine gm_sz (gm_p_max hat hc (gm_ir_w hx) (gm_ir_w hy) (ck_sum8_s hst h.1) h1) (hk _ _ _ _ _ _ _ _ _ _ _ _ h.2 ⟨f1, f2, ck_pi ?_ ⟨?_, ?_, ck_gt_none⟩ (s := none) trivial hst, f4, f5⟩)
      · unfold gm_ir at *; omega
      · dsimp only; split <;> omega
      · dsimp only; split <;> omega
    · split at h
      · rename_i e
        subst e
        rcases AS with _ | ⟨⟨b | b | r | c, t⟩, _ | ⟨⟨a | a | r' | c', s⟩, AS⟩⟩ <;> (try cases h)
        obtain ⟨f1, f2, f3, f4, f5⟩ := hS
        obtain ⟨y, st, rfl, hy, hb, -, hst⟩ := ck_qi f3
        obtain ⟨x, st, rfl, hx, ha, -, hst⟩ := ck_qi hst
        dsimp only at h
        rw [Bool.and_eq_true] at h
        obtain ⟨a1, a2, -⟩ := ha
        obtain ⟨b1, b2, -⟩ := hb
        refine gm_sz (gm_p_min hat hc (gm_ir_w hx) (gm_ir_w hy) (ck_sum8_s hst h.1) h1) (hk _ _ _ _ _ _ _ _ _ _ _ _ h.2 ⟨f1, f2, ck_pi ?_ ⟨?_, ?_, ck_gt_none⟩ (s := none) trivial hst, f4, f5⟩)
        · unfold gm_ir at *; omega
        · dsimp only; split <;> omega
        · dsimp only; split <;> omega
      · rw [Bool.and_eq_true] at h
        obtain ⟨h2, h⟩ := h
        simp only [Bool.and_eq_true, decide_eq_true_eq, List.isEmpty_iff] at h2
        obtain ⟨hh, e1, e3, e4, e5, e6⟩ := h2
        obtain ⟨t1, t2, t3, t4⟩ := ck_take (m := gm_na mj) hS.2.2.1
        refine ck_call_s (pc' := pc + 3) hs hE hS t2 t4 hk (fun d' bc' bs' a1 a2 a3 a4 => ?_) h
        have := gm_c_stat (bc := bc) (bs := bs) hat hc e1 hh (as := (st.take (gm_na mj)).reverse) (st := st.drop (gm_na mj)) (by rw [List.length_reverse, t1]; exact e3) (t3 e4) (by rw [List.length_reverse, t1, e3]; exact e5) (ck_sum8_s t4 e6) a1 a2 a3 (gm_Wp_mono (fun o n K R M hq => gm_cont_H hh hq) a4)
        rw [List.reverse_reverse, List.take_append_drop] at this
        exact this
theorem ck_j_virt {ix : Nat} (hE : ck_nmu O ∧ ck_OkE O X LX E) (hs : ∀ s, s < 100 → σ s = σ0 s) (hat : gm_at mi pc = some (.invokevirtual ix)) (hS : ck_St O σ W n0 K0 R0 M0 AL AS F L st n K R M) (hk : ck_On O X LX σ mi d W n0 K0 R0 M0 (ck_Q O σ0 W n0 K0 R0 M0 outs) k) (h : ck_j O lx XF E mi d n0 W outs bc bs pc AL AS n F k (.invokevirtual ix) = true) : gm_Wp X LX d bc bs mi pc L st n K R M (ck_Q O σ0 W n0 K0 R0 M0 outs) := by
  unfold ck_j at h
  dsimp only at h
  cases hc : gm_cal (gm_ow mi) ix with
  | none =>
    rw [hc] at h
    dsimp only at h
    cases hu : gm_una (gm_ow mi) ix with
    | none => rw [hu] at h; cases h
    | some na =>
      rw [hu] at h
      dsimp only at h
      obtain ⟨t1, t2, t3, t4⟩ := ck_take (m := na) hS.2.2.1
      split at h
      · rename_i r s AS' hd
        rw [hd] at t4
        obtain ⟨st', hst', hst⟩ := ck_qr t4
        cases hq : ck_kd O F r with
        | none => rw [hq] at h; cases h
        | some p =>
          rw [hq] at h
          dsimp only at h
          obtain ⟨g1, g2⟩ := ck_kd_s hS.1 hS.2.2.2.1 hq
          cases hup : gm_up (gm_ow mi) ix (p.1 - 4) with
          | none => rw [hup] at h; cases h
          | some mj =>
            rw [hup] at h
            dsimp only at h
            rw [Bool.and_eq_true] at h
            obtain ⟨h0, h⟩ := h
            simp only [Bool.and_eq_true, decide_eq_true_eq, List.isEmpty_iff] at h0
            obtain ⟨hh, e1, e2, e3, e4, e5, e6⟩ := h0
            refine ck_call_s (pc' := pc + 3) (vs := gm_vr r :: (st.take na).reverse) (as := (.inr (.inr (.inl r))) :: (AS.take na).reverse.map Prod.fst) hs hE hS ⟨_, _, rfl, rfl, t2⟩ hst hk (fun d' bc' bs' a1 a2 a3 a4 => ?_) h
            have := gm_c_up (bc := bc) (bs := bs) hat hup hh (as := (st.take na).reverse) (st := st') g1 (show (K r).1 = (p.1 - 4) + 4 by rw [g2]; omega) (by rw [List.length_reverse, t1, e2, e3]) (t3 e4) (by rw [List.length_reverse, t1, e2]; exact e5) (ck_sum8_s hst e6) a1 a2 a3 (gm_Wp_mono (fun o n K R M hq => gm_cont_H hh hq) a4)
            rw [List.reverse_reverse, ← hst', List.take_append_drop] at this
            exact this
      · cases h
  | some q =>
    rw [hc] at h
    obtain ⟨kd, mj⟩ := q
    dsimp only at h
    split at h
    · rename_i e82
      subst e82
      rcases AS with _ | ⟨⟨a | a | r | id, s⟩, AS⟩ <;> (try exact absurd (show false = true from h) Bool.false_ne_true)
      obtain ⟨f1, f2, f3, f4, f5⟩ := hS
      obtain ⟨st', rfl, hst⟩ := ck_qo f3
      dsimp only at h
      simp only [Bool.and_eq_true, beq_iff_eq, decide_eq_true_eq, List.isEmpty_iff] at h
      obtain ⟨⟨rfl, hh, hid, h8, hd⟩, h⟩ := h
      have h9 := (gm_chk_s hid).1.2
      have h7 : gm_ir (gm_slen id : Int) := by unfold gm_ir; omega
      have := gm_c_vstr (X := X) (LX := LX) (L := L) (n := n) (K := K) (R := R) (M := M) (Q := ck_Q O σ0 W n0 K0 R0 M0 outs) (bc := bc) (bs := bs) (d' := 1) (bc' := 0) (bs' := 0) (mj := 82) (as := []) (st := st') hat hc (by decide +kernel) hh hid (by decide +kernel) (by decide +kernel) (fun _ h => nomatch h) (by decide +kernel) (ck_sum8_s hst h8) hd (Nat.zero_le _) (Nat.zero_le _) (gm_w82 (Nat.le_refl _) hid (hk _ _ _ _ _ _ _ _ _ _ _ _ h ⟨f1, f2, ck_pi h7 (ck_one_s _) (s := none) trivial hst, f4, f5⟩))
      exact this
    split at h
    · rename_i e82 e84
      subst e84
      rcases AS with _ | ⟨⟨e | e | r | c, t⟩, _ | ⟨⟨a | a | r | id, s⟩, AS⟩⟩ <;> (try exact absurd (show false = true from h) Bool.false_ne_true)
      obtain ⟨f1, f2, f3, f4, f5⟩ := hS
      obtain ⟨i, st1, rfl, hi, he, -, hst1⟩ := ck_qi f3
      obtain ⟨st', rfl, hst⟩ := ck_qo hst1
      dsimp only at h
      simp only [Bool.and_eq_true, beq_iff_eq, decide_eq_true_eq, List.isEmpty_iff] at h
      obtain ⟨⟨rfl, hh, hid, h8, hd, hl, hr⟩, h⟩ := h
      have hi1 := he.1
      have hi2 := he.2.1
      have h9 := ((gm_chk_s hid).2 i.toNat (by omega)).2
      have h7 : gm_ir (gm_chv id i.toNat) := by unfold gm_ir; omega
      have h5 : ∀ v ∈ [gm_vi i], ¬ gm_sort v = 1 := fun v hv => by
        rw [List.mem_singleton.mp hv]
        simp [gm_sort]
      have h6 : ck_gi σ (0, 127, []) (gm_chv id i.toNat) := ⟨h9.1, by dsimp only; omega, ck_gt_none⟩
      have := gm_c_vstr (X := X) (LX := LX) (L := L) (n := n) (K := K) (R := R) (M := M) (Q := ck_Q O σ0 W n0 K0 R0 M0 outs) (bc := bc) (bs := bs) (d' := 3) (bc' := 0) (bs' := 0) (mj := 84) (as := [gm_vi i]) (st := st') hat hc (by decide +kernel) hh hid (by decide +kernel) (show 1 = gm_na 84 by decide +kernel) h5 (show 1 + 1 ≤ gm_ml 84 by decide +kernel) (ck_sum8_s hst h8) hd (Nat.zero_le _) (Nat.zero_le _) (gm_w84 (Nat.le_refl _) hid ⟨by omega, by omega⟩ (hk _ _ _ _ _ _ _ _ _ _ _ _ h ⟨f1, f2, ck_pi h7 h6 (s := none) trivial hst, f4, f5⟩))
      exact this
    rw [Bool.and_eq_true] at h
    obtain ⟨h0, h⟩ := h
    simp only [Bool.and_eq_true, beq_iff_eq, decide_eq_true_eq] at h0
    obtain ⟨rfl, e1, e2, e3, e4, e5⟩ := h0
    obtain ⟨t1, t2, t3, t4⟩ := ck_take (m := gm_na mj) hS.2.2.1
    split at h
    · rename_i r s AS' hd
      rw [hd] at t4
      obtain ⟨st', hst', hst⟩ := ck_qr t4
      rw [Bool.and_eq_true, Bool.and_eq_true] at h
      obtain ⟨⟨h1, h2⟩, h⟩ := h
      cases hq : ck_kd O F r with
      | none => rw [hq] at h2; cases h2
      | some p =>
        rw [hq] at h2
        simp only [beq_iff_eq] at h2
        obtain ⟨g1, g2⟩ := ck_kd_s hS.1 hS.2.2.2.1 hq
        refine ck_call_s (pc' := pc + 3) (vs := gm_vr r :: (st.take (gm_na mj)).reverse) (as := (.inr (.inr (.inl r))) :: (AS.take (gm_na mj)).reverse.map Prod.fst) hs hE hS ⟨_, _, rfl, rfl, t2⟩ hst hk (fun d' bc' bs' a1 a2 a3 a4 => ?_) h
        have hmj := (gm_cal_spec hc).1
        have := gm_c_virtH (bc := bc) (bs := bs) hat hc e1 (as := (st.take (gm_na mj)).reverse) (st := st') g1 (by rw [g2]; exact h2) e2 (gm_cio_spec hmj e2) (by rw [List.length_reverse, t1]; exact e3) (t3 e4) (by rw [List.length_reverse, t1, e3]; exact e5) (ck_sum8_s hst h1) a1 a2 a3 a4
        rw [List.reverse_reverse, ← hst', List.take_append_drop] at this
        exact this
    · cases h
theorem ck_j_spec {ix : Nat} (hE : ck_nmu O ∧ ck_OkE O X LX E) (hs : ∀ s, s < 100 → σ s = σ0 s) (hat : gm_at mi pc = some (.invokespecial ix)) (hS : ck_St O σ W n0 K0 R0 M0 AL AS F L st n K R M) (hk : ck_On O X LX σ mi d W n0 K0 R0 M0 (ck_Q O σ0 W n0 K0 R0 M0 outs) k) (h : ck_j O lx XF E mi d n0 W outs bc bs pc AL AS n F k (.invokespecial ix) = true) : gm_Wp X LX d bc bs mi pc L st n K R M (ck_Q O σ0 W n0 K0 R0 M0 outs) := by
  unfold ck_j at h
  dsimp only at h
  split at h
  · rename_i ho
    rcases AS with _ | ⟨⟨a | a | r | c, s⟩, AS⟩ <;> (try cases h)
    obtain ⟨f1, f2, f3, f4, f5⟩ := hS
    obtain ⟨st, rfl, hst⟩ := ck_qr f3
    dsimp only at h
    simp only [Bool.and_eq_true, decide_eq_true_eq] at h
    obtain ⟨⟨h1, h2, h3⟩, h⟩ := h
    exact gm_sz (gm_p_oinit hat ho h3 (ck_sum8_s hst h1) h2) (hk _ _ _ _ _ _ _ _ _ _ _ _ h ⟨f1, f2, hst, f4, f5⟩)
  · cases hc : gm_cal (gm_ow mi) ix with
    | none => rw [hc] at h; cases h
    | some q =>
      rw [hc] at h
      obtain ⟨kd, mj⟩ := q
      dsimp only at h
      rw [Bool.and_eq_true] at h
      obtain ⟨h0, h⟩ := h
      simp only [Bool.and_eq_true, Bool.or_eq_true, beq_iff_eq, decide_eq_true_eq, List.isEmpty_iff] at h0
      obtain ⟨hh, e0, e1, e3, e4, e5⟩ := h0
      obtain ⟨t1, t2, t3, t4⟩ := ck_take (m := gm_na mj) hS.2.2.1
      split at h
      · rename_i r s AS' hd
        rw [hd] at t4
        obtain ⟨st', hst', hst⟩ := ck_qr t4
        rw [Bool.and_eq_true] at h
        obtain ⟨h2, h⟩ := h
        simp only [Bool.and_eq_true, decide_eq_true_eq] at h2
        obtain ⟨h1, h3⟩ := h2
        refine ck_call_s (pc' := pc + 3) (vs := gm_vr r :: (st.take (gm_na mj)).reverse) (as := (.inr (.inr (.inl r))) :: (AS.take (gm_na mj)).reverse.map Prod.fst) hs hE hS ⟨_, _, rfl, rfl, t2⟩ hst hk (fun d' bc' bs' a1 a2 a3 a4 => ?_) h
        have := gm_c_init (bc := bc) (bs := bs) hat hc e0 e1 hh (as := (st.take (gm_na mj)).reverse) (st := st') h3 (by rw [List.length_reverse, t1]; exact e3) (t3 e4) (by rw [List.length_reverse, t1, e3]; exact e5) (ck_sum8_s hst h1) a1 a2 a3 (gm_Wp_mono (fun o n K R M hq => gm_cont_H hh hq) a4)
        rw [List.reverse_reverse, ← hst', List.take_append_drop] at this
        exact this
      · cases h
theorem ck_j_iret  (hs : ∀ s, s < 100 → σ s = σ0 s) (hat : gm_at mi pc = some (.ireturn)) (hS : ck_St O σ W n0 K0 R0 M0 AL AS F L st n K R M) (hk : ck_On O X LX σ mi d W n0 K0 R0 M0 (ck_Q O σ0 W n0 K0 R0 M0 outs) k) (h : ck_j O lx XF E mi d n0 W outs bc bs pc AL AS n F k (.ireturn) = true) : gm_Wp X LX d bc bs mi pc L st n K R M (ck_Q O σ0 W n0 K0 R0 M0 outs) := by
  unfold ck_j at h
  dsimp only at h
  split at h
  · rename_i a s
    obtain ⟨f1, f2, f3, f4, f5⟩ := hS
    obtain ⟨x, st, rfl, hx, ha, hsx, hst⟩ := ck_qi f3
    cases hst
    split at h
    · rename_i e
      cases hg : ck_sgn a s with
      | false =>
        rw [hg] at h
        exact gm_r_int hat (.inl e) (ck_end_s (how := .inr (some (.inl a))) hs f1 f4 f5 ⟨x, rfl, hx, ha⟩ h)
      | true =>
        rw [hg] at h
        have h : (ck_br .lt a s (ck_one 0) none AL F (fun _ F => ck_end O outs (.inr (some (.inl (ck_rf .lt a (ck_one 0))))) n F) && ck_br .ge a s (ck_one 0) none AL F (fun _ F => ck_end O outs (.inr (some (.inl (ck_rf .ge a (ck_one 0))))) n F)) = true := h
        rw [Bool.and_eq_true] at h
        have hS0 : ck_St O σ W n0 K0 R0 M0 AL [] F L [] n K R M := ⟨f1, f2, rfl, f4, f5⟩
        by_cases hx0 : x < 0
        · exact ck_br_s (c := .lt) hS0 hx ha hsx ⟨by decide, by decide⟩ (ck_one_s 0) (t := none) trivial (show gm_cm .lt x 0 from hx0) h.1 (fun AL F hq hS => gm_r_int hat (.inl e) (ck_end_s (how := .inr (some (.inl (ck_rf .lt a (ck_one 0))))) hs hS.1 hS.2.2.2.1 hS.2.2.2.2 ⟨x, rfl, hx, ck_rf_s ha (ck_one_s 0) (show gm_cm .lt x 0 from hx0)⟩ hq))
        · exact ck_br_s (c := .ge) hS0 hx ha hsx ⟨by decide, by decide⟩ (ck_one_s 0) (t := none) trivial (show gm_cm .ge x 0 by show (0 : Int) ≤ x; omega) h.2 (fun AL F hq hS => gm_r_int hat (.inl e) (ck_end_s (how := .inr (some (.inl (ck_rf .ge a (ck_one 0))))) hs hS.1 hS.2.2.2.1 hS.2.2.2.2 ⟨x, rfl, hx, ck_rf_s ha (ck_one_s 0) (show gm_cm .ge x 0 by show (0 : Int) ≤ x; omega)⟩ hq))
    · rename_i e
      simp only [Bool.and_eq_true, decide_eq_true_eq] at h
      have := ha.1
      have := ha.2.1
      exact gm_r_int hat (.inr ⟨e, by omega⟩) (ck_end_s (how := .inr (some (.inl a))) hs f1 f4 f5 ⟨x, rfl, hx, ha⟩ h.2)
    · cases h
  · cases h
theorem ck_j_vret  (hs : ∀ s, s < 100 → σ s = σ0 s) (hat : gm_at mi pc = some (.return_)) (hS : ck_St O σ W n0 K0 R0 M0 AL AS F L st n K R M) (hk : ck_On O X LX σ mi d W n0 K0 R0 M0 (ck_Q O σ0 W n0 K0 R0 M0 outs) k) (h : ck_j O lx XF E mi d n0 W outs bc bs pc AL AS n F k (.return_) = true) : gm_Wp X LX d bc bs mi pc L st n K R M (ck_Q O σ0 W n0 K0 R0 M0 outs) := by
  unfold ck_j at h
  dsimp only at h
  split at h
  · obtain ⟨f1, f2, f3, f4, f5⟩ := hS
    cases f3
    rw [Bool.and_eq_true, Option.isNone_iff_eq_none] at h
    exact gm_r_void hat h.1 (ck_end_s (how := .inr none) hs f1 f4 f5 trivial h.2)
  · cases h
theorem ck_j_aret  (hs : ∀ s, s < 100 → σ s = σ0 s) (hat : gm_at mi pc = some (.areturn)) (hS : ck_St O σ W n0 K0 R0 M0 AL AS F L st n K R M) (hk : ck_On O X LX σ mi d W n0 K0 R0 M0 (ck_Q O σ0 W n0 K0 R0 M0 outs) k) (h : ck_j O lx XF E mi d n0 W outs bc bs pc AL AS n F k (.areturn) = true) : gm_Wp X LX d bc bs mi pc L st n K R M (ck_Q O σ0 W n0 K0 R0 M0 outs) := by
  unfold ck_j at h
  dsimp only at h
  split at h
  · rename_i r s
    obtain ⟨f1, f2, f3, f4, f5⟩ := hS
    obtain ⟨st, rfl, hst⟩ := ck_qr f3
    cases hst
    split at h
    · rename_i e
      exact gm_r_ref hat (.inl ⟨_, e⟩) (ck_end_s (how := .inr (some (.inr (.inr (.inl r))))) hs f1 f4 f5 rfl h)
    · rename_i e
      exact gm_r_ref hat (.inr ⟨_, e⟩) (ck_end_s (how := .inr (some (.inr (.inr (.inl r))))) hs f1 f4 f5 rfl h)
    · cases h
  · cases h
end CM
end
/-! 26.cg -/
section
/-! THE CHECKER is right. -/
section CG
variable {O : gm_Or} {X : Int → Int} {LX : Nat} {lx : Option Nat} {XF : List (Int × Int × ck_I)} {E : List (Nat × List ck_Sum)} {mi d n0 : Nat} {W : List (Nat × Int × Int) × List (Nat × Int)} {outs : List ck_Oc} {bc bs pc : Nat} {L : gm_L} {st : List gm_V} {n : Nat} {K : gm_K} {R : gm_R} {M : gm_M} {AL : ck_AL} {AS : ck_AS} {F : ck_F} {σ σ0 : Nat → Int} {K0 : gm_K} {R0 : gm_R} {M0 : gm_M} {k : Nat → Nat → Nat → ck_AL → ck_AS → Nat → ck_F → Bool}
theorem ck_j_s {i : Instr} (hE : ck_nmu O ∧ ck_OkE O X LX E) (hX : ck_OkX σ X XF) (hlx : ∀ l, lx = some l → l = LX) (hs : ∀ s, s < 100 → σ s = σ0 s) (hat : gm_at mi pc = some i) (hS : ck_St O σ W n0 K0 R0 M0 AL AS F L st n K R M) (hk : ck_On O X LX σ mi d W n0 K0 R0 M0 (ck_Q O σ0 W n0 K0 R0 M0 outs) k) (h : ck_j O lx XF E mi d n0 W outs bc bs pc AL AS n F k i = true) : gm_Wp X LX d bc bs mi pc L st n K R M (ck_Q O σ0 W n0 K0 R0 M0 outs) := by
  cases i
  case ineg => exact ck_j_ineg hat hS hk h
  case i2b => exact ck_j_i2b hat hS hk h
  case i2l => exact ck_j_i2l hat hS hk h
  case l2i => exact ck_j_l2i hat hS hk h
  case lcmp => exact ck_j_lcmp hat hS hk h
  case idiv => exact ck_j_idiv hat hS hk h
  case irem => exact ck_j_irem hat hS hk h
  case dup => exact ck_j_dup hat hS hk h
  case pop => exact ck_j_pop hat hS hk h
  case dup2 => exact ck_j_dup2 hat hS hk h
  case iinc => exact ck_j_iinc hat hS hk h
  case goto => exact ck_j_goto hat hS hk h
  case ifCond => exact ck_j_if hat hS hk h
  case if_icmp => exact ck_j_ic hat hS hk h
  case ifnull => exact ck_j_ifnull hat hS hk h
  case ifnonnull => exact ck_j_ifnonnull hat hS hk h
  case tableswitch => exact ck_j_sw hat hS hk h
  case getfield => exact ck_j_get hat hS hk h
  case putfield => exact ck_j_put hat hS hk h
  case iaload => exact ck_j_iald hX hlx hat hS hk h
  case baload => exact ck_j_bald hat hS hk h
  case laload => exact ck_j_lald hat hS hk h
  case aaload => exact ck_j_aald hat hS hk h
  case iastore => exact ck_j_iast hat hS hk h
  case bastore => exact ck_j_bast hat hS hk h
  case lastore => exact ck_j_last hat hS hk h
  case aastore => exact ck_j_aast hat hS hk h
  case arraylength => exact ck_j_alen hlx hat hS hk h
  case new => exact ck_j_new hs hat hS hk h
  case newarray => exact ck_j_newa hat hS hk h
  case anewarray => exact ck_j_anew hat hS hk h
  case ldc => exact ck_j_ldc hat hS hk h
  case ldc_w => exact ck_j_ldc_w hat hS hk h
  case ldc2_w => exact ck_j_ldcl hat hS hk h
  case invokestatic => exact ck_j_stat hE hs hat hS hk h
  case invokevirtual => exact ck_j_virt hE hs hat hS hk h
  case invokespecial => exact ck_j_spec hE hs hat hS hk h
  case ireturn => exact ck_j_iret hs hat hS hk h
  case return_ => exact ck_j_vret hs hat hS hk h
  case areturn => exact ck_j_aret hs hat hS hk h
  all_goals exact absurd (show false = true from h) Bool.false_ne_true
theorem ck_fk_s {i : Instr} {a b : ck_I} (h : ck_fk i a b = true) : ck_sg b = true := by
  unfold ck_fk at h
  split at h
  · rw [Bool.and_eq_true] at h; exact h.1
  · cases h
theorem ck_i_s {i : Instr} (hE : ck_nmu O ∧ ck_OkE O X LX E) (hX : ck_OkX σ X XF) (hlx : ∀ l, lx = some l → l = LX) (hs : ∀ s, s < 100 → σ s = σ0 s) (hat : gm_at mi pc = some i) (hS : ck_St O σ W n0 K0 R0 M0 AL AS F L st n K R M) (hk : ck_On O X LX σ mi d W n0 K0 R0 M0 (ck_Q O σ0 W n0 K0 R0 M0 outs) k) (h : ck_i O lx XF E mi d n0 W outs bc bs pc AL AS n F k i = true) : gm_Wp X LX d bc bs mi pc L st n K R M (ck_Q O σ0 W n0 K0 R0 M0 outs) := by
  unfold ck_i at h
  obtain ⟨f1, f2, f3, f4, f5⟩ := _root_.id hS
  cases hc : gm_const i with
  | some v =>
    rw [hc] at h
    dsimp only at h
    rw [Bool.and_eq_true] at h
    exact gm_sz (gm_p_const hat hc) (hk _ _ _ _ _ _ _ _ _ _ _ _ h.2 ⟨f1, f2, ⟨v, _, rfl, ⟨ck_cv_s h.1, trivial⟩, f3⟩, f4, f5⟩)
  | none =>
  rw [hc] at h
  dsimp only at h
  cases hl : gm_load i with
  | some q =>
    rw [hl] at h
    obtain ⟨sr, j⟩ := q
    dsimp only at h
    split at h
    · rename_i a hj
      rw [Bool.and_eq_true, beq_iff_eq] at h
      obtain ⟨u, hu1, hu2⟩ := f2.2 j a hj
      exact gm_sz (gm_p_load hat hl hu1 (by rw [ck_so_s hu2]; exact h.1)) (hk _ _ _ _ _ _ _ _ _ _ _ _ h.2 ⟨f1, f2, ⟨u, _, rfl, ⟨hu2, u, hu1, Or.inl ⟨rfl, rfl⟩⟩, f3⟩, f4, f5⟩)
    · cases h
  | none =>
  rw [hl] at h
  dsimp only at h
  cases ht : gm_stor i with
  | some q =>
    rw [ht] at h
    obtain ⟨sr, j⟩ := q
    dsimp only at h
    rcases AS with _ | ⟨q, AS⟩
    · cases h
    · obtain ⟨v, st', e0, hso, hv, hst⟩ := ck_q1 f3
      subst e0
      dsimp only at h
      simp only [Bool.and_eq_true, beq_iff_eq, decide_eq_true_eq] at h
      exact gm_sz (gm_p_stor hat ht (by rw [← f2.1]; exact h.1.2) (by rw [hso]; exact h.1.1)) (hk _ _ _ _ _ _ _ _ _ _ _ _ h.2 ⟨f1, ck_lst_s f2 hv.1, ck_sl_s hst, f4, f5⟩)
  | none =>
  rw [ht] at h
  dsimp only at h
  cases hb : gm_bin i with
  | some f =>
    rw [hb] at h
    rcases AS with _ | ⟨⟨b | b | r | c, t⟩, _ | ⟨⟨a | a | r' | c', s⟩, AS⟩⟩ <;> (try cases h)
    obtain ⟨y, st, rfl, hy, hb2, hsy, hst⟩ := ck_qi f3
    obtain ⟨x, st, rfl, hx, ha, hsx, hst⟩ := ck_qi hst
    dsimp only at h
    refine gm_sz (gm_p_bin hat hb) (ck_nv ?_)
    cases hk1 : ck_fk i a b with
    | true =>
      rw [hk1] at h
      have e1 := ck_sg_s hb2 (ck_fk_s hk1)
      have h2 := List.all_eq_true.mp h (x - a.1).toNat (List.mem_range.mpr (by have := ha.1; have := ha.2.1; omega))
      rw [show a.1 + ((x - a.1).toNat : Int) = x by have := ha.1; omega, ← e1] at h2
      exact hk _ _ _ _ _ _ _ _ _ _ _ _ h2 ⟨f1, ck_qL_s ⟨Int.le_refl _, Int.le_refl _⟩ ha f2, ck_pi (ck_w_ir _) (ck_one_s _) (s := none) trivial hst, ck_qF_s ⟨Int.le_refl _, Int.le_refl _⟩ ha f4, f5⟩
    | false =>
      rw [hk1] at h
      cases hk2 : ck_fk i b a with
      | true =>
        rw [hk2] at h
        have e1 := ck_sg_s ha (ck_fk_s hk2)
        have h2 := List.all_eq_true.mp h (y - b.1).toNat (List.mem_range.mpr (by have := hb2.1; have := hb2.2.1; omega))
        rw [show b.1 + ((y - b.1).toNat : Int) = y by have := hb2.1; omega, ← e1] at h2
        exact hk _ _ _ _ _ _ _ _ _ _ _ _ h2 ⟨f1, ck_qL_s ⟨Int.le_refl _, Int.le_refl _⟩ hb2 f2, ck_pi (ck_w_ir _) (ck_one_s _) (s := none) trivial hst, ck_qF_s ⟨Int.le_refl _, Int.le_refl _⟩ hb2 f4, f5⟩
      | false =>
        rw [hk2] at h
        exact hk _ _ _ _ _ _ _ _ _ _ _ _ h ⟨f1, f2, ck_pi (ck_w_ir _) (ck_bo_s hb ha hb2 hx hy) (s := ck_lks O (ck_sb i a s b t)) (ck_lks_s f1 (ck_sb_s hb ha hsx hb2 hsy)) hst, f4, f5⟩
  | none =>
  rw [hb] at h
  dsimp only at h
  cases hlb : gm_lbin i with
  | some f =>
    rw [hlb] at h
    rcases AS with _ | ⟨⟨b | b | r | c, t⟩, _ | ⟨⟨a | a | r' | c', s⟩, AS⟩⟩ <;> (try cases h)
    obtain ⟨y, st, rfl, hy, hb2, hst⟩ := ck_ql f3
    obtain ⟨x, st, rfl, hx, ha, hst⟩ := ck_ql hst
    exact gm_sz (gm_p_lbin hat hlb) (ck_nv6 (hk _ _ _ _ _ _ _ _ _ _ _ _ h ⟨f1, f2, ck_pl (ck_r6_w _) (ck_tp6_s (ck_r6_w _)) hst, f4, f5⟩))
  | none =>
  rw [hlb] at h
  dsimp only at h
  cases hls : gm_lsh i with
  | some f =>
    rw [hls] at h
    rcases AS with _ | ⟨⟨b | b | r | c, t⟩, _ | ⟨⟨a | a | r' | c', s⟩, AS⟩⟩ <;> (try cases h)
    obtain ⟨y, st, rfl, hy, hb2, -, hst⟩ := ck_qi f3
    obtain ⟨x, st, rfl, hx, ha, hst⟩ := ck_ql hst
    exact gm_sz (gm_p_lsh hat hls) (ck_nv6 (hk _ _ _ _ _ _ _ _ _ _ _ _ h ⟨f1, f2, ck_pl (ck_r6_w _) (ck_tp6_s (ck_r6_w _)) hst, f4, f5⟩))
  | none =>
  rw [hls] at h
  dsimp only at h
  exact ck_j_s hE hX hlx hs hat hS hk h
/-! another meaning of one name -/
noncomputable def ck_us (σ : Nat → Int) (s : Nat) (v : Int) : Nat → Int := fun t => if t = s then v else σ t
theorem ck_nI_s {s : Nat} {v x : Int} {a : ck_I} (h : ck_nI s a = true) : ck_gi (ck_us σ s v) a x ↔ ck_gi σ a x := by
  have key : ck_gt (ck_us σ s v) a.2.2 x ↔ ck_gt σ a.2.2 x := by
    have h0 : ∀ q ∈ a.2.2, (ck_g1 (ck_us σ s v) q x ↔ ck_g1 σ q x) := by
      intro q hq
      have h := List.all_eq_true.mp h q hq
      simp only [Bool.and_eq_true, Bool.not_eq_true', beq_eq_false_iff_ne, ne_eq] at h
      have e : ck_us σ s v q.1 = σ q.1 := by unfold ck_us; rw [if_neg h.1]
      have e2 : 1000000 ≤ q.1 → ck_us σ s v (q.1 - 1000000) = σ (q.1 - 1000000) := by intro h9; unfold ck_us; rw [if_neg (by omega)]
      unfold ck_g1
      rw [e]
      constructor
      · exact fun h2 => ⟨h2.1, fun h9 => by rw [← e2 h9]; exact h2.2 h9⟩
      · exact fun h2 => ⟨h2.1, fun h9 => by rw [e2 h9]; exact h2.2 h9⟩
    exact ⟨fun h1 q hq => (h0 q hq).mp (h1 q hq), fun h1 q hq => (h0 q hq).mpr (h1 q hq)⟩
  unfold ck_gi
  rw [key]
theorem ck_nA_s {s : Nat} {v : Int} {a : ck_A} {u : gm_V} (h : ck_nA s a = true) : ck_ga (ck_us σ s v) a u ↔ ck_ga σ a u := by
  rcases a with a | a | j | j
  · constructor <;> rintro ⟨x, h1, h2, h3⟩ <;> exact ⟨x, h1, h2, by first | exact (ck_nI_s h).mp h3 | exact (ck_nI_s h).mpr h3⟩
  · constructor <;> rintro ⟨x, h1, h2, h3⟩ <;> exact ⟨x, h1, h2, by first | exact (ck_nI_s h).mp h3 | exact (ck_nI_s h).mpr h3⟩
  · exact Iff.rfl
  · exact Iff.rfl
theorem ck_nL_s {s : Nat} {v : Int} (h : ck_nL s AL = true) : ck_gl (ck_us σ s v) AL L ↔ ck_gl σ AL L := by
  have h1 : ∀ (j : Nat) (b : ck_A), AL[j]? = some (some b) → ck_nA s b = true := fun j b hb => List.all_eq_true.mp h _ (List.mem_of_getElem? hb)
  constructor
  · intro hl
    refine ⟨hl.1, fun j b hb => ?_⟩
    obtain ⟨u, h2, h3⟩ := hl.2 j b hb
    exact ⟨u, h2, (ck_nA_s (h1 j b hb)).mp h3⟩
  · intro hl
    refine ⟨hl.1, fun j b hb => ?_⟩
    obtain ⟨u, h2, h3⟩ := hl.2 j b hb
    exact ⟨u, h2, (ck_nA_s (h1 j b hb)).mpr h3⟩
theorem ck_nF_s {s : Nat} {v : Int} (h : ck_nF s F = true) : ck_gf (ck_us σ s v) F n K R M ↔ ck_gf σ F n K R M := by
  constructor
  · intro hf
    refine ⟨hf.1, hf.2.1, fun q hq => ⟨(hf.2.2 q hq).1, fun j h1 h2 => ?_⟩⟩
    have h3 := (hf.2.2 q hq).2 j h1 h2
    exact ⟨h3.1, (ck_nI_s (List.all_eq_true.mp h q hq)).mp h3.2⟩
  · intro hf
    refine ⟨hf.1, hf.2.1, fun q hq => ⟨(hf.2.2 q hq).1, fun j h1 h2 => ?_⟩⟩
    have h3 := (hf.2.2 q hq).2 j h1 h2
    exact ⟨h3.1, (ck_nI_s (List.all_eq_true.mp h q hq)).mpr h3.2⟩
/-- what stands at the place of a counter -/
noncomputable def ck_lv (c : Nat ⊕ (Nat × Int)) (L : gm_L) (M : gm_M) (v : Int) : Prop := match c with
  | .inl j => L[j]? = some (some (gm_vi v))
  | .inr q => M q.1 q.2 = v
theorem ck_loc_s {c : Nat ⊕ (Nat × Int)} {a : ck_I} (hF : gm_Fx O n K R M) (hl : ck_gl σ AL L) (hf : ck_gf σ F n K R M) (h : ck_loc O c AL F = some a) : ∃ v, ck_lv c L M v ∧ gm_ir v ∧ ck_gi σ a v := by
  unfold ck_loc at h
  split at h
  · rename_i j
    split at h
    · rename_i b hb
      cases h
      obtain ⟨u, h1, x, rfl, h2, h3⟩ := hl.2 j _ hb
      exact ⟨x, h1, h2, h3⟩
    · cases h
  · rename_i q
    obtain ⟨-, h1⟩ := ck_rd_s hF hf h
    have h2 := h1 q.2 (Int.le_refl _) (Int.le_refl _)
    exact ⟨_, rfl, h2.1, h2.2⟩
theorem ck_lv_eq {c : Nat ⊕ (Nat × Int)} {v w : Int} (h1 : ck_lv c L M v) (h2 : ck_lv c L M w) : v = w := by
  rcases c with j | q
  · have h3 : some (some (gm_vi v)) = some (some (gm_vi w)) := (show L[j]? = _ from h1).symm.trans h2
    cases h3
    rfl
  · exact (show M q.1 q.2 = v from h1).symm.trans h2
theorem ck_b_s {c : Nat ⊕ (Nat × Int)} {s : Nat} {a : ck_I} {v : Int} (hF : gm_Fx O n K R M) (hs6 : s < 1000000) (hl : ck_gl σ AL L) (hf : ck_gf σ F n K R M) (hc : ck_loc O c AL F = some a) (hv : ck_lv c L M v) (hsv : σ s = v) : ck_gl σ (ck_bL c s a AL) L ∧ ck_gf σ (ck_bF c s a F) n K R M := by
  obtain ⟨w, h1, h2, h3⟩ := ck_loc_s hF hl hf hc
  have := ck_lv_eq h1 hv
  subst this
  have h4 : ck_gi σ (a.1, a.2.1, (s, 0) :: a.2.2) w := ⟨h3.1, h3.2.1, fun q hq => by
    rcases List.mem_cons.mp hq with rfl | hq
    · exact ⟨fun _ => by rw [hsv]; exact (Int.add_zero w).symm, fun e => absurd e (by dsimp only; omega)⟩
    · exact h3.2.2 q hq⟩
  unfold ck_bL ck_bF
  split
  · rename_i j
    refine ⟨⟨by simp [hl.1], fun i b hb => ?_⟩, hf⟩
    rw [List.getElem?_set] at hb
    by_cases e : j = i
    · rw [if_pos e] at hb
      split at hb
      · cases hb
        rw [← e]
        exact ⟨gm_vi w, h1, w, rfl, h2, h4⟩
      · cases hb
    · rw [if_neg e] at hb
      exact hl.2 i b hb
  · rename_i q
    refine ⟨hl, hf.1, hf.2.1, fun p hp => ?_⟩
    rcases List.mem_cons.mp hp with rfl | hp
    · obtain ⟨h5, -⟩ := ck_rd_s hF hf hc
      refine ⟨h5, fun j h6 h7 => ?_⟩
      have h8 : j = q.2 := Int.le_antisymm h7 h6
      subst h8
      have h9 : M q.1 q.2 = w := h1
      dsimp only
      rw [h9]
      exact ⟨h2, h4⟩
    · exact hf.2.2 p hp
/-- what is known of a cut on the way -/
noncomputable def ck_Hy (O : gm_Or) (X : Int → Int) (LX mi d : Nat) (W : List (Nat × Int × Int) × List (Nat × Int)) (n0 : Nat) (K0 : gm_K) (R0 : gm_R) (M0 : gm_M) (Q : gm_Q) (σ : Nat → Int) (h : ck_H) : Prop :=
  ∀ (v : Int), ((h.2.1.2.2.1 = 0 ∨ 2000000 ≤ h.2.1.2.2.1) ∨ if h.2.1.2.2.2.2 = true then σ h.2.1.2.2.1 < v else v < σ h.2.1.2.2.1) → ∀ (bc bs : Nat) (L : gm_L) (K : gm_K) (R : gm_R) (M : gm_M), h.2.2.1 ≤ bc → h.2.2.2.1 ≤ bs → ck_St O σ W n0 K0 R0 M0 h.2.1.1 [] h.2.1.2.1 L [] h.2.2.2.2 K R M → ck_lv h.2.1.2.2.2.1 L M v → gm_Wp X LX d bc bs mi h.1 L [] h.2.2.2.2 K R M Q
theorem ck_Hy_us {Q : gm_Q} {h : ck_H} {s : Nat} {v : Int} (hs : ¬ h.2.1.2.2.1 = s) (h1 : ck_nL s h.2.1.1 = true) (h2 : ck_nF s h.2.1.2.1 = true) (hy : ck_Hy O X LX mi d W n0 K0 R0 M0 Q σ h) : ck_Hy O X LX mi d W n0 K0 R0 M0 Q (ck_us σ s v) h := by
  intro w hw bc bs L K R M a1 a2 a3 a4
  have e : ck_us σ s v h.2.1.2.2.1 = σ h.2.1.2.2.1 := by unfold ck_us; rw [if_neg hs]
  rw [e] at hw
  obtain ⟨f1, f2, f3, f4, f5⟩ := a3
  exact hy w hw bc bs L K R M a1 a2 ⟨f1, (ck_nL_s h1).mp f2, by cases f3; rfl, (ck_nF_s h2).mp f4, f5⟩ a4
theorem ck_cu_s {cuts : List (Nat × ck_C)} (h : ck_cu cuts = true) {p : Nat} {c c' : ck_C} (h1 : (p, c) ∈ cuts) (h2 : (p, c') ∈ cuts) (h3 : c.2.2.1 = c'.2.2.1) : c = c' := by
  have h4 := of_decide_eq_true (List.all_eq_true.mp h _ h1)
  have m1 : (p, c) ∈ cuts.filter fun q => q.1 == (p, c).1 && q.2.2.2.1 == (p, c).2.2.2.1 := List.mem_filter.mpr ⟨h1, by simp⟩
  have m2 : (p, c') ∈ cuts.filter fun q => q.1 == (p, c).1 && q.2.2.2.1 == (p, c).2.2.2.1 := List.mem_filter.mpr ⟨h2, by simp [h3]⟩
  revert h4 m1 m2
  generalize (cuts.filter fun q => q.1 == (p, c).1 && q.2.2.2.1 == (p, c).2.2.2.1) = l
  intro h4 m1 m2
  rcases l with _ | ⟨x, _ | ⟨y, l⟩⟩
  · cases m1
  · have e1 := List.mem_singleton.mp m1
    have e2 := List.mem_singleton.mp m2
    exact (Prod.mk.inj (e1.trans e2.symm)).2
  · simp at h4
theorem ck_go_s {cuts : List (Nat × ck_C)} (hcu : ck_cu cuts = true) (hE : ck_nmu O ∧ ck_OkE O X LX E) (hX : ∀ σ, ck_OkX σ X XF) (hlx : ∀ l, lx = some l → l = LX) : ∀ (f : Nat) (fst : Bool) (ch : List ck_H) (bc bs pc : Nat) (AL : ck_AL) (AS : ck_AS) (n : Nat) (F : ck_F) (σ : Nat → Int) (L : gm_L) (st : List gm_V) (K : gm_K) (R : gm_R) (M : gm_M), (∀ s, s < 100 → σ s = σ0 s) → (∀ h ∈ ch, (h.1, h.2.1) ∈ cuts ∧ ck_Hy O X LX mi d W n0 K0 R0 M0 (ck_Q O σ0 W n0 K0 R0 M0 outs) σ h) → ck_St O σ W n0 K0 R0 M0 AL AS F L st n K R M → ck_go O lx XF E mi d n0 W outs cuts f fst ch bc bs pc AL AS n F = true → gm_Wp X LX d bc bs mi pc L st n K R M (ck_Q O σ0 W n0 K0 R0 M0 outs) := by
  intro f
  induction f with
  | zero => intro fst ch bc bs pc AL AS n F σ L st K R M _ _ _ h; cases h
  | succ f ih =>
    intro fst ch bc bs pc AL AS n F σ L st K R M hs hch hS h
    unfold ck_go at h
    cases hcut : (if fst = true then none else cuts.find? fun q => q.1 == pc && (ck_leL AL q.2.1 && ck_leF O F q.2.2.1)) with
    | none =>
      rw [hcut] at h
      dsimp only at h
      cases hat : gm_at mi pc with
      | none => rw [hat] at h; cases h
      | some i =>
        rw [hat] at h
        dsimp only at h
        rw [ck_d_eq] at h
        exact ck_i_s hE (hX σ) hlx hs hat hS (fun bc bs pc AL AS n F L st K R M hk hS => ih false ch bc bs pc AL AS n F σ L st K R M hs hch hS hk) h
    | some qc =>
      obtain ⟨pc9, c⟩ := qc
      rw [hcut] at h
      dsimp only at h
      have hlk : (pc, c) ∈ cuts ∧ (ck_leL AL c.1 = true ∧ ck_leF O F c.2.1 = true) := by
        split at hcut
        · cases hcut
        · have h9 := List.find?_some hcut
          simp only [Bool.and_eq_true, beq_iff_eq] at h9
          have h8 := List.mem_of_find?_eq_some hcut
          rw [h9.1] at h8
          exact ⟨h8, h9.2⟩
      obtain ⟨hlk, h1, h2⟩ := hlk
      rw [Bool.and_eq_true, List.isEmpty_iff] at h
      obtain ⟨rfl, h⟩ := h
      obtain ⟨f1, f2, f3, f4, f5⟩ := hS
      cases f3
      have g2 := ck_leL_s h1 f2
      have g4 := ck_leF_s f1 f4 h2
      split at h
      · rename_i a a0 ha ha0
        obtain ⟨v, hv, hvi, hva⟩ := ck_loc_s f1 f2 f4 ha
        split at h
        · rename_i hc hfind
          have hm := List.mem_of_find?_eq_some hfind
          have hpc := List.find?_some hfind
          rw [Bool.and_eq_true, beq_iff_eq, beq_iff_eq] at hpc
          obtain ⟨hp1, hp2⟩ := hpc
          obtain ⟨hl2, hy⟩ := hch hc hm
          subst hp1
          have hp3 := ck_cu_s hcu hl2 hlk hp2
          subst hp3
          rw [Bool.and_eq_true] at h
          obtain ⟨h3, h4⟩ := h
          simp only [Bool.and_eq_true, beq_iff_eq, decide_eq_true_eq] at h3
          obtain ⟨rfl, h5, h6⟩ := h3
          rw [Bool.or_eq_true, Bool.or_eq_true, beq_iff_eq, decide_eq_true_eq] at h4
          rcases h4 with h4 | h4
          · exact hy v (.inl h4) bc bs L K R M h5 h6 ⟨f1, g2, rfl, g4, f5⟩ hv
          obtain ⟨q, ht, h4⟩ := List.any_eq_true.mp h4
          have hvq := hva.2.2 q ht
          refine hy v (.inr ?_) bc bs L K R M h5 h6 ⟨f1, g2, rfl, g4, f5⟩ hv
          simp only [Bool.or_eq_true, Bool.and_eq_true, beq_iff_eq, decide_eq_true_eq] at h4
          rcases h4 with ⟨h8, h9, h7⟩ | ⟨h8, h9, h10, h7⟩
          · have h11 := hvq.1 (by omega)
            rw [← h8, h11]
            split
            · rename_i e
              rw [if_pos e, decide_eq_true_eq] at h7
              omega
            · rename_i e
              rw [if_neg e, decide_eq_true_eq] at h7
              omega
          · have h11 := hvq.2 (by omega)
            have h12 : q.1 - 1000000 = hc.2.1.2.2.1 := by omega
            rw [h12] at h11
            rw [if_pos h10]
            omega
        · rw [Bool.and_eq_true] at h
          obtain ⟨h3, h⟩ := h
          simp only [Bool.and_eq_true, decide_eq_true_eq, List.all_eq_true, Bool.not_eq_true', beq_eq_false_iff_ne, ne_eq] at h3
          obtain ⟨h4, h5, h6, h7⟩ := h3
          -- by the counter
          have key : ∀ (m : Nat) (v : Int) (bc' bs' : Nat) (L : gm_L) (K : gm_K) (R : gm_R) (M : gm_M), (if c.2.2.2.2 = true then a0.2.1 - v else v - a0.1) < m → bc ≤ bc' → bs ≤ bs' → ck_St O σ W n0 K0 R0 M0 c.1 [] c.2.1 L [] n K R M → ck_lv c.2.2.2.1 L M v → gm_Wp X LX d bc' bs' mi pc L [] n K R M (ck_Q O σ0 W n0 K0 R0 M0 outs) := by
            intro m
            induction m with
            | zero =>
              intro v bc' bs' L K R M hm _ _ hS hv
              exfalso
              obtain ⟨w, w1, w2, w3⟩ := ck_loc_s hS.1 hS.2.1 hS.2.2.2.1 ha0
              have := ck_lv_eq w1 hv
              subst this
              have := w3.1
              have := w3.2.1
              split at hm <;> omega
            | succ m ihm =>
              intro v bc' bs' L K R M hm hb1 hb2 hS hv
              refine gm_Wp_wk (Nat.le_refl _) hb1 hb2 ?_
              obtain ⟨e1, e2, e3, e4, e5⟩ := hS
              have hsv : ck_us σ c.2.2.1 v c.2.2.1 = v := by unfold ck_us; rw [if_pos rfl]
              obtain ⟨b1, b2⟩ := ck_b_s e1 (s := c.2.2.1) h4.2 ((ck_nL_s (v := v) h6).mpr e2) ((ck_nF_s (v := v) h7).mpr e4) ha0 hv hsv
              refine ih true ((pc, c, bc, bs, n) :: ch) bc bs pc _ [] n _ (ck_us σ c.2.2.1 v) L [] K R M (fun s hs2 => ?_) (fun hc hm2 => ?_) ⟨e1, b1, rfl, b2, e5⟩ h
              · unfold ck_us
                rw [if_neg (by omega)]
                exact hs s hs2
              · rcases List.mem_cons.mp hm2 with rfl | hm2
                · refine ⟨hlk, ?_⟩
                  intro v' hv' bc'' bs'' L' K' R' M' a1 a2 a3 a4
                  obtain ⟨d1, d2, d3, d4, d5⟩ := a3
                  refine ihm v' bc'' bs'' L' K' R' M' ?_ a1 a2 ⟨d1, (ck_nL_s h6).mp d2, rfl, (ck_nF_s h7).mp d4, d5⟩ a4
                  dsimp only at hv'
                  replace hv' := hv'.resolve_left (by have := h4.1; have := h4.2; omega)
                  rw [hsv] at hv'
                  split at hm
                  · rename_i e
                    rw [if_pos e] at hv' ⊢
                    omega
                  · rename_i e
                    rw [if_neg e] at hv' ⊢
                    omega
                · obtain ⟨c1, c2⟩ := hch hc hm2
                  obtain ⟨c3, c4, c5⟩ := h5 hc hm2
                  exact ⟨c1, ck_Hy_us c3 c4 c5 c2⟩
          exact key ((if c.2.2.2.2 = true then a0.2.1 - v else v - a0.1).toNat + 1) v bc bs L K R M (by omega) (Nat.le_refl _) (Nat.le_refl _) ⟨f1, g2, rfl, g4, f5⟩ hv
      · cases h
theorem ck_ent : ∀ {as : List ck_A} {vs : List gm_V}, ck_gas σ as vs → as.length = vs.length ∧ ∀ (j : Nat) (b : ck_A), as[j]? = some b → ∃ u, vs[j]? = some u ∧ ck_ga σ b u := by
  intro as
  induction as with
  | nil => intro vs h; cases h; exact ⟨rfl, fun j b hb => by simp at hb⟩
  | cons a as ih =>
    intro vs h
    obtain ⟨v, ws, rfl, h1, h2⟩ := h
    obtain ⟨h3, h4⟩ := ih h2
    refine ⟨by simp [h3], fun j b hb => ?_⟩
    cases j with
    | zero =>
      simp only [List.getElem?_cons_zero, Option.some.injEq] at hb ⊢
      subst hb
      exact ⟨v, rfl, h1⟩
    | succ j =>
      simp only [List.getElem?_cons_succ] at hb ⊢
      exact h4 j b hb
/-- A METHOD that the checker has seen -/
theorem ck_ok_s {cuts : List (Nat × ck_C)} {f : Nat} {S : ck_Sum} (hE : ck_nmu O ∧ ck_OkE O X LX E) (hX : ∀ σ, ck_OkX σ X XF) (hlx : ∀ l, lx = some l → l = LX) (h : ck_ok O lx XF E mi cuts f S = true) : ck_Ok O X LX mi S := by
  intro d σ vs n K R M hd hn hvs _ hF hf
  unfold ck_ok at h
  simp only [Bool.and_eq_true, decide_eq_true_eq] at h
  obtain ⟨⟨h2, hcu⟩, h3⟩ := h
  subst hn
  obtain ⟨g1, g2⟩ := ck_ent hvs
  refine gm_Wp_wk hd (Nat.le_refl _) (Nat.le_refl _) (ck_go_s (σ0 := σ) hcu hE hX hlx f false [] _ _ 0 _ [] _ _ σ _ [] K R M (fun _ _ => rfl) (fun _ hm => nomatch hm) ⟨hF, ⟨?_, fun j b hb => ?_⟩, rfl, hf, ck_fr_0⟩ h3)
  · unfold gm_ent
    simp [g1]
  · unfold gm_ent
    rw [List.getElem?_append] at hb ⊢
    simp only [List.length_map] at hb ⊢
    split at hb
    · rename_i e
      rw [if_pos (by rw [← g1]; exact e)]
      rw [List.getElem?_map] at hb ⊢
      cases hq : S.2.2.1[j]? with
      | none => rw [hq] at hb; cases hb
      | some b' =>
        rw [hq] at hb
        cases hb
        obtain ⟨u, h4, h5⟩ := g2 j b hq
        exact ⟨u, by rw [h4]; rfl, h5⟩
    · exfalso
      have := List.mem_of_getElem? hb
      rw [List.mem_replicate] at this
      cases this.2
end CG
end
/-! 27.ce -/
section
/-! THE CHECKER: what its rows are put together with. -/
section CE
variable {O : gm_Or} {X : Int → Int} {LX : Nat}
theorem ck_S0 {mj : Nat} : ∀ S ∈ ([] : List ck_Sum), ck_Ok O X LX mj S := fun _ h => nomatch h
theorem ck_S1 {mj : Nat} {S : ck_Sum} {l : List ck_Sum} (h : ck_Ok O X LX mj S) (t : ∀ S ∈ l, ck_Ok O X LX mj S) : ∀ S' ∈ S :: l, ck_Ok O X LX mj S' := fun S' hm => (List.mem_cons.mp hm).elim (fun e => by rw [e]; exact h) (t S')
theorem ck_E0 : ck_OkE O X LX [] := fun _ _ h => nomatch h
theorem ck_E1 {mj : Nat} {l : List ck_Sum} {E : List (Nat × List ck_Sum)} (h : ∀ S ∈ l, ck_Ok O X LX mj S) (t : ck_OkE O X LX E) : ck_OkE O X LX ((mj, l) :: E) := by
  intro mj' l' he
  rw [List.lookup_cons] at he
  by_cases e : mj' = mj
  · subst e
    rw [beq_self_eq_true] at he
    cases he
    exact h
  · rw [beq_false_of_ne e] at he
    exact t mj' l' he
theorem ck_X0 : ∀ σ, ck_OkX σ X [] := fun _ _ h => nomatch h
theorem ck_l0 : ∀ l, (none : Option Nat) = some l → l = LX := fun _ h => nomatch h
theorem ck_okq {E : List (Nat × List ck_Sum)} {mi : Nat} {cuts : List (Nat × ck_C)} {f : Nat} {S : ck_Sum} (hE : ck_nmu O ∧ ck_OkE O X LX E) (h : ck_ok O none [] E mi cuts f S = true) : ck_Ok O X LX mi S := ck_ok_s hE ck_X0 ck_l0 h
end CE
/-! WHAT NEVER CHANGES, as a table: kind and length, references, types; sixteen cells a row. -/
noncomputable abbrev ck_TT : Type := List (List (Option ((Nat × Nat) × List (Int × Nat) × List (Int × Int × Int × Int))))
noncomputable def ck_tab (T : ck_TT) (k : Nat) : Option ((Nat × Nat) × List (Int × Nat) × List (Int × Int × Int × Int)) := match fl_nth T (k / 16) with
  | some r => (match fl_nth r (k % 16) with
    | some e => e
    | none => none)
  | none => none
/-- of the table, with what is written by hand: stretches that nothing writes, what is said of them, names, counted cells -/
noncomputable def ck_OG (T : ck_TT) (fp : Nat → List (Int × Int)) (J : gm_JJ) (nm : List (Nat × Nat × Int)) (gh : Option (Nat × Int × Int)) (hJ : gm_hP fp J gh) : gm_Or := (fun k => match ck_tab T k with
  | some e => some e.1
  | none => none, fun k j => match ck_tab T k with
  | some e => fl_lki j e.2.1
  | none => none, ⟨(fun k => match ck_tab T k with
    | some e => e.2.2
    | none => [], fp, J, nm, gh), hJ⟩)
noncomputable def ck_OT (T : ck_TT) (fp : Nat → List (Int × Int)) (J : gm_JJ) (nm : List (Nat × Nat × Int)) (hJ : ∀ (K K' : gm_K) (M M' : gm_M), (∀ k r, r ∈ fp k → K' k = K k) → (∀ k r, r ∈ fp k → ∀ j, r.1 ≤ j → j ≤ r.2 → M' k j = M k j) → J K M → J K' M') : gm_Or := ck_OG T fp J nm none ⟨hJ, fun _ h => nomatch h⟩
end
/-! 28.sp -/
section
/-! CUTS SHOWN ONE BEHIND ANOTHER: each is walked once, those shown ahead of it are stops (names from 2000000 on). -/
noncomputable def ck_stp (O : gm_Or) (E : List (Nat × List ck_Sum)) (mi d n0 : Nat) (W : List (Nat × Int × Int) × List (Nat × Int)) (outs : List ck_Oc) (cuts : List (Nat × ck_C)) (f : Nat) : List ck_H → List ck_H → Bool
  | [], _ => true
  | h :: r, done => ck_go O none [] E mi d n0 W outs cuts f true done h.2.2.1 h.2.2.2.1 h.1 h.2.1.1 [] h.2.2.2.2 h.2.1.2.1 && ck_stp O E mi d n0 W outs cuts f r (h :: done)
noncomputable def ck_okp (O : gm_Or) (E : List (Nat × List ck_Sum)) (mi : Nat) (cuts : List (Nat × ck_C)) (l : List ck_H) (f : Nat) (S : ck_Sum) : Bool :=
  ((decide (S.2.2.1.length ≤ gm_ml mi) && ck_cu (l.map (fun h => (h.1, h.2.1)) ++ cuts)) && ck_stp O E mi S.1.1 S.2.1 S.2.2.2.2.1 S.2.2.2.2.2 (l.map (fun h => (h.1, h.2.1)) ++ cuts) f l []) && (ck_go O none [] E mi S.1.1 S.2.1 S.2.2.2.2.1 S.2.2.2.2.2 (l.map (fun h => (h.1, h.2.1)) ++ cuts) f false l S.1.2.1 S.1.2.2 0 (S.2.2.1.map some ++ List.replicate (gm_ml mi - S.2.2.1.length) none) [] S.2.1 S.2.2.2.1)
section SP
variable {O : gm_Or} {X : Int → Int} {LX : Nat} {E : List (Nat × List ck_Sum)} {mi d n0 : Nat} {W : List (Nat × Int × Int) × List (Nat × Int)} {outs : List ck_Oc} {σ σ0 : Nat → Int} {K0 : gm_K} {R0 : gm_R} {M0 : gm_M}
theorem ck_stp_s {cuts : List (Nat × ck_C)} {f : Nat} (hcu : ck_cu cuts = true) (hE : ck_nmu O ∧ ck_OkE O X LX E) : ∀ (l done : List ck_H), (∀ h ∈ l, (h.1, h.2.1) ∈ cuts) → (∀ h ∈ done, (h.1, h.2.1) ∈ cuts ∧ ∀ σ : Nat → Int, (∀ s, s < 100 → σ s = σ0 s) → ck_Hy O X LX mi d W n0 K0 R0 M0 (ck_Q O σ0 W n0 K0 R0 M0 outs) σ h) → ck_stp O E mi d n0 W outs cuts f l done = true → ∀ h ∈ l, (h.1, h.2.1) ∈ cuts ∧ ∀ σ : Nat → Int, (∀ s, s < 100 → σ s = σ0 s) → ck_Hy O X LX mi d W n0 K0 R0 M0 (ck_Q O σ0 W n0 K0 R0 M0 outs) σ h := by
  intro l
  induction l with
  | nil => intro done _ _ _ h hm; cases hm
  | cons h0 r ih =>
    intro done hl hd hs h hm
    unfold ck_stp at hs
    rw [Bool.and_eq_true] at hs
    have key : (h0.1, h0.2.1) ∈ cuts ∧ ∀ σ : Nat → Int, (∀ s, s < 100 → σ s = σ0 s) → ck_Hy O X LX mi d W n0 K0 R0 M0 (ck_Q O σ0 W n0 K0 R0 M0 outs) σ h0 := by
      refine ⟨hl h0 List.mem_cons_self, fun σ hσ v _ bc bs L K R M hb1 hb2 hS _ => ?_⟩
      exact gm_Wp_wk (Nat.le_refl _) hb1 hb2 (ck_go_s (σ0 := σ0) hcu hE ck_X0 ck_l0 f true done _ _ _ _ [] _ _ σ L [] K R M hσ (fun z hz => ⟨(hd z hz).1, (hd z hz).2 σ hσ⟩) hS hs.1)
    rcases List.mem_cons.mp hm with rfl | hm
    · exact key
    · refine ih (h0 :: done) (fun z hz => hl z (List.mem_cons_of_mem _ hz)) (fun z hz => ?_) hs.2 h hm
      rcases List.mem_cons.mp hz with rfl | hz
      · exact key
      · exact hd z hz
theorem ck_okp_s {cuts : List (Nat × ck_C)} {l : List ck_H} {f : Nat} {S : ck_Sum} (hE : ck_nmu O ∧ ck_OkE O X LX E) (h : ck_okp O E mi cuts l f S = true) : ck_Ok O X LX mi S := by
  intro d σ vs n K R M hd hn hvs _ hF hf
  unfold ck_okp at h
  simp only [Bool.and_eq_true, decide_eq_true_eq] at h
  obtain ⟨⟨⟨h2, hcu⟩, hst⟩, h3⟩ := h
  subst hn
  obtain ⟨g1, g2⟩ := ck_ent hvs
  have hl : ∀ h ∈ l, (h.1, h.2.1) ∈ l.map (fun h => (h.1, h.2.1)) ++ cuts := fun h hm => List.mem_append_left _ (List.mem_map.mpr ⟨h, hm, rfl⟩)
  have hch := ck_stp_s (σ0 := σ) (K0 := K) (R0 := R) (M0 := M) hcu hE l [] hl (fun _ hz => nomatch hz) hst
  refine gm_Wp_wk hd (Nat.le_refl _) (Nat.le_refl _) (ck_go_s (σ0 := σ) hcu hE ck_X0 ck_l0 f false l _ _ 0 _ [] _ _ σ _ [] K R M (fun _ _ => rfl) (fun z hz => ⟨(hch z hz).1, (hch z hz).2 σ (fun _ _ => rfl)⟩) ⟨hF, ⟨?_, fun j b hb => ?_⟩, rfl, hf, ck_fr_0⟩ h3)
  · unfold gm_ent
    simp [g1]
  · unfold gm_ent
    rw [List.getElem?_append] at hb ⊢
    simp only [List.length_map] at hb ⊢
    split at hb
    · rename_i e
      rw [if_pos (by rw [← g1]; exact e)]
      rw [List.getElem?_map] at hb ⊢
      cases hq : S.2.2.1[j]? with
      | none => rw [hq] at hb; cases hb
      | some b' =>
        rw [hq] at hb
        cases hb
        obtain ⟨u, h4, h5⟩ := g2 j b hq
        exact ⟨u, by rw [h4]; rfl, h5⟩
    · exfalso
      have := List.mem_of_getElem? hb
      rw [List.mem_replicate] at this
      cases this.2
end SP
/-- one of them by itself: those ahead of it are stops -/
noncomputable def ck_stpi (O : gm_Or) (E : List (Nat × List ck_Sum)) (mi d n0 : Nat) (W : List (Nat × Int × Int) × List (Nat × Int)) (outs : List ck_Oc) (cuts : List (Nat × ck_C)) (f : Nat) (l : List ck_H) (i : Nat) : Bool := match l.drop i with
  | [] => true
  | h :: _ => ck_go O none [] E mi d n0 W outs cuts f true (l.take i).reverse h.2.2.1 h.2.2.2.1 h.1 h.2.1.1 [] h.2.2.2.2 h.2.1.2.1
section SPI
variable {O : gm_Or} {X : Int → Int} {LX : Nat} {E : List (Nat × List ck_Sum)} {mi d n0 : Nat} {W : List (Nat × Int × Int) × List (Nat × Int)} {outs : List ck_Oc}
theorem ck_stpi_s {cuts : List (Nat × ck_C)} {f : Nat} {l : List ck_H} (h : ∀ i, i < l.length → ck_stpi O E mi d n0 W outs cuts f l i = true) : ∀ (r done : List ck_H), l = done.reverse ++ r → ck_stp O E mi d n0 W outs cuts f r done = true := by
  intro r
  induction r with
  | nil => intro done _; rfl
  | cons a r ih =>
    intro done e
    have h1 := h done.length (by rw [e]; simp)
    unfold ck_stpi at h1
    rw [e, List.drop_left' (by simp), List.take_left' (by simp), List.reverse_reverse] at h1
    unfold ck_stp
    rw [Bool.and_eq_true]
    exact ⟨h1, ih (a :: done) (by rw [e]; simp)⟩
theorem ck_okp_i {cuts : List (Nat × ck_C)} {l : List ck_H} {f : Nat} {S : ck_Sum} (hE : ck_nmu O ∧ ck_OkE O X LX E) (h1 : (decide (S.2.2.1.length ≤ gm_ml mi) && ck_cu (l.map (fun h => (h.1, h.2.1)) ++ cuts)) = true) (h2 : ∀ i, i < l.length → ck_stpi O E mi S.1.1 S.2.1 S.2.2.2.2.1 S.2.2.2.2.2 (l.map (fun h => (h.1, h.2.1)) ++ cuts) f l i = true) (h3 : ck_go O none [] E mi S.1.1 S.2.1 S.2.2.2.2.1 S.2.2.2.2.2 (l.map (fun h => (h.1, h.2.1)) ++ cuts) f false l S.1.2.1 S.1.2.2 0 (S.2.2.1.map some ++ List.replicate (gm_ml mi - S.2.2.1.length) none) [] S.2.1 S.2.2.2.1 = true) : ck_Ok O X LX mi S := by
  refine ck_okp_s (cuts := cuts) (l := l) (f := f) hE ?_
  unfold ck_okp
  rw [h1, h3, ck_stpi_s h2 l [] rfl]
  rfl
end SPI
end
/-! 29.ja -/
section
/-! WHAT IS SAID OF MEMORY that bounds of single numbers do not say: how many letters are opened, to whom they go, the texts of the law. -/
noncomputable def jcn (f : Int → Int) : Nat → Nat
  | 0 => 0
  | m + 1 => jcn f m + (if f (124 + 7 * (m : Int)) < 0 then 1 else 0)
/-- opened and not opened are no more than there are; what is from somebody goes to somebody -/
noncomputable def jO (f : Int → Int) : Prop := f 14 + (jcn f 24 : Int) ≤ f 4 ∧ ∀ l : Nat, l < 24 → 0 ≤ f (119 + 7 * (l : Int)) → 0 ≤ f (120 + 7 * (l : Int))
/-- a step with g numbers laid by leaves g' -/
noncomputable def jS (k g g' : Int) : Prop := (k ≤ 10 → 0 ≤ g ∧ g' = g + 1) ∧ (k = 14 → 1 ≤ g ∧ g' = g) ∧ (10 < k → ¬ k = 14 → 2 ≤ g ∧ g' = g - 1)
/-- a text of lines; each line's steps can be reckoned -/
noncomputable def jT (f : Int → Int) : Prop := ∀ n : Int, 0 ≤ n → n < 12 → n < f 0 → (0 ≤ f (3 + 4 * n) ∧ f (3 + 4 * n) ≤ f (4 + 4 * n) ∧ f (4 + 4 * n) ≤ 400) ∧ ∃ G : Int → Int, G (f (3 + 4 * n)) = 0 ∧ ∀ i, f (3 + 4 * n) ≤ i → i < f (4 + 4 * n) → jS (f (49 + 2 * i)) (G i) (G (i + 1))
/-- what is remembered keeps these types -/
noncomputable def jA (t : List (Int × Int × Int × Int)) (f : Int → Int) : Prop := ∀ y : Int, 0 ≤ y → y < 12 → ∀ r ∈ t, ∀ j, r.1 ≤ j → j ≤ r.2.1 → 0 ≤ j → j < 395 → (-2147483648 ≤ f (395 * y + j) ∧ f (395 * y + j) < 2147483648) ∧ r.2.2.1 ≤ f (395 * y + j) ∧ f (395 * y + j) ≤ r.2.2.2
noncomputable def jP (t : List (Int × Int × Int × Int)) (f7 f8 f9 fA : Int → Int) : Prop := (jO f7 ∧ jO f8 ∧ jO f9 ∧ ∀ y : Int, 0 ≤ y → y < 12 → jO (fun j => fA (395 * y + j))) ∧ jA t fA ∧ jT (fun j => f7 (395 + j)) ∧ jT (fun j => f8 (395 + j)) ∧ jT (fun j => f9 (395 + j))
theorem jcn_cg {f g : Int → Int} : ∀ m : Nat, (∀ l : Nat, l < m → g (124 + 7 * (l : Int)) = f (124 + 7 * (l : Int))) → jcn g m = jcn f m := by
  intro m
  induction m with
  | zero => intro _; rfl
  | succ m ih =>
    intro h
    show jcn g m + (if g (124 + 7 * (m : Int)) < 0 then 1 else 0) = jcn f m + (if f (124 + 7 * (m : Int)) < 0 then 1 else 0)
    rw [ih (fun l hl => h l (by omega)), h m (by omega)]
theorem jcn_up {f g : Int → Int} {l0 : Nat} : ∀ m : Nat, (∀ l : Nat, l < m → ¬ l = l0 → g (124 + 7 * (l : Int)) = f (124 + 7 * (l : Int))) → jcn g m ≤ jcn f m + 1 := by
  intro m
  induction m with
  | zero => intro _; exact Nat.zero_le _
  | succ m ih =>
    intro h
    show jcn g m + (if g (124 + 7 * (m : Int)) < 0 then 1 else 0) ≤ jcn f m + (if f (124 + 7 * (m : Int)) < 0 then 1 else 0) + 1
    by_cases e : m = l0
    · have := jcn_cg (f := f) (g := g) m (fun l hl => h l (by omega) (by omega))
      rw [this]
      split <;> split <;> omega
    · have := ih (fun l hl hne => h l (by omega) hne)
      rw [h m (by omega) e]
      omega
theorem jcn_dn {f g : Int → Int} {l0 : Nat} (h0 : f (124 + 7 * (l0 : Int)) < 0) (h1 : 0 ≤ g (124 + 7 * (l0 : Int))) : ∀ m : Nat, l0 < m → (∀ l : Nat, l < m → ¬ l = l0 → g (124 + 7 * (l : Int)) = f (124 + 7 * (l : Int))) → jcn g m + 1 = jcn f m := by
  intro m
  induction m with
  | zero => intro hl _; omega
  | succ m ih =>
    intro hl h
    show jcn g m + (if g (124 + 7 * (m : Int)) < 0 then 1 else 0) + 1 = jcn f m + (if f (124 + 7 * (m : Int)) < 0 then 1 else 0)
    by_cases e : m = l0
    · subst e
      have := jcn_cg (f := f) (g := g) m (fun l hl => h l (by omega) (by omega))
      rw [this, if_neg (by omega), if_pos h0]
    · have := ih (by omega) (fun l hl hne => h l (by omega) hne)
      rw [h m (by omega) e]
      omega
theorem jcn_pos {f : Int → Int} {l0 : Nat} (h0 : f (124 + 7 * (l0 : Int)) < 0) : ∀ m : Nat, l0 < m → 1 ≤ jcn f m := by
  intro m
  induction m with
  | zero => intro hl; omega
  | succ m ih =>
    intro hl
    show 1 ≤ jcn f m + (if f (124 + 7 * (m : Int)) < 0 then 1 else 0)
    by_cases e : m = l0
    · subst e
      rw [if_pos h0]
      omega
    · have := ih (by omega)
      omega
theorem jO_cg {f g : Int → Int} (h4 : g 4 = f 4) (h14 : g 14 = f 14) (h : ∀ l : Nat, l < 24 → g (119 + 7 * (l : Int)) = f (119 + 7 * (l : Int)) ∧ g (120 + 7 * (l : Int)) = f (120 + 7 * (l : Int)) ∧ g (124 + 7 * (l : Int)) = f (124 + 7 * (l : Int))) (hf : jO f) : jO g := by
  refine ⟨?_, fun l hl h1 => ?_⟩
  · rw [jcn_cg (f := f) (g := g) 24 (fun l hl => (h l hl).2.2), h4, h14]
    exact hf.1
  · rw [(h l hl).1] at h1
    rw [(h l hl).2.1]
    exact hf.2 l hl h1
theorem jO_cg2 {f g : Int → Int} (h : ∀ j, 0 ≤ j → j < 395 → g j = f j) (hf : jO f) : jO g := jO_cg (h 4 (by decide) (by decide)) (h 14 (by decide) (by decide)) (fun l hl => ⟨h _ (by omega) (by omega), h _ (by omega) (by omega), h _ (by omega) (by omega)⟩) hf
theorem jT_cg {f g : Int → Int} (h : ∀ j, 0 ≤ j → j < 849 → g j = f j) (hf : jT f) : jT g := by
  intro n h1 h2 h3
  rw [h 0 (by decide) (by decide)] at h3
  obtain ⟨⟨a1, a2, a3⟩, G, a4, a5⟩ := hf n h1 h2 h3
  rw [h (3 + 4 * n) (by omega) (by omega), h (4 + 4 * n) (by omega) (by omega)]
  refine ⟨⟨a1, a2, a3⟩, G, a4, fun i h4 h5 => ?_⟩
  rw [h (49 + 2 * i) (by omega) (by omega)]
  exact a5 i h4 h5
theorem jA_cg {t : List (Int × Int × Int × Int)} {f g : Int → Int} (h : ∀ j, 0 ≤ j → j < 4740 → g j = f j) (hf : jA t f) : jA t g := by
  intro y y1 y2 r hr j h1 h2 h3 h4
  rw [h (395 * y + j) (by omega) (by omega)]
  exact hf y y1 y2 r hr j h1 h2 h3 h4
noncomputable def j_fp (k : Nat) : List (Int × Int) := if k = 227 then [(4, 4), (14, 14), (395, 1243), (119, 120), (124, 124), (126, 127), (131, 131), (133, 134), (138, 138), (140, 141), (145, 145), (147, 148), (152, 152), (154, 155), (159, 159), (161, 162), (166, 166), (168, 169), (173, 173), (175, 176), (180, 180), (182, 183), (187, 187), (189, 190), (194, 194), (196, 197), (201, 201), (203, 204), (208, 208), (210, 211), (215, 215), (217, 218), (222, 222), (224, 225), (229, 229), (231, 232), (236, 236), (238, 239), (243, 243), (245, 246), (250, 250), (252, 253), (257, 257), (259, 260), (264, 264), (266, 267), (271, 271), (273, 274), (278, 278), (280, 281), (285, 285)] else if k = 228 then [(0, 1243)] else if k = 229 then [(0, 1243)] else if k = 230 then [(0, 4739)] else []
noncomputable def j_J (t : List (Int × Int × Int × Int)) (_ : gm_K) (M : gm_M) : Prop := jP t (M 227) (M 228) (M 229) (M 230)
theorem j_fpm : (List.range 24).all (fun l => decide ((119 + 7 * (l : Int), 120 + 7 * (l : Int)) ∈ j_fp 227) && decide ((124 + 7 * (l : Int), 124 + 7 * (l : Int)) ∈ j_fp 227)) = true := by decide +kernel
theorem j_h {t : List (Int × Int × Int × Int)} : ∀ (K K' : gm_K) (M M' : gm_M), (∀ k r, r ∈ j_fp k → K' k = K k) → (∀ k r, r ∈ j_fp k → ∀ j, r.1 ≤ j → j ≤ r.2 → M' k j = M k j) → j_J t K M → j_J t K' M' := by
  intro _ _ M M' _ h hJ
  obtain ⟨⟨o7, o8, o9, oA⟩, tA, t7, t8, t9⟩ := hJ
  have h8 : ∀ j, 0 ≤ j → j < 1244 → M' 228 j = M 228 j := fun j h1 h2 => h 228 (0, 1243) (by decide) j h1 (by dsimp only; omega)
  have h9 : ∀ j, 0 ≤ j → j < 1244 → M' 229 j = M 229 j := fun j h1 h2 => h 229 (0, 1243) (by decide) j h1 (by dsimp only; omega)
  have hA : ∀ j, 0 ≤ j → j < 4740 → M' 230 j = M 230 j := fun j h1 h2 => h 230 (0, 4739) (by decide) j h1 (by dsimp only; omega)
  have h7 : ∀ j, 395 ≤ j → j < 1244 → M' 227 j = M 227 j := fun j h1 h2 => h 227 (395, 1243) (by decide +kernel) j h1 (by dsimp only; omega)
  refine ⟨⟨jO_cg (h 227 (4, 4) (by decide +kernel) 4 (Int.le_refl _) (Int.le_refl _)) (h 227 (14, 14) (by decide +kernel) 14 (Int.le_refl _) (Int.le_refl _)) (fun l hl => ?_) o7, jO_cg2 (fun j h1 h2 => h8 j h1 (by omega)) o8, jO_cg2 (fun j h1 h2 => h9 j h1 (by omega)) o9, fun y y1 y2 => jO_cg2 (fun j h1 h2 => hA _ (by omega) (by omega)) (oA y y1 y2)⟩, jA_cg hA tA, jT_cg (fun j h1 h2 => h7 _ (by omega) (by omega)) t7, jT_cg (fun j h1 h2 => h8 _ (by omega) (by omega)) t8, jT_cg (fun j h1 h2 => h9 _ (by omega) (by omega)) t9⟩
  have h1 := List.all_eq_true.mp j_fpm l (List.mem_range.mpr hl)
  rw [Bool.and_eq_true, decide_eq_true_eq, decide_eq_true_eq] at h1
  exact ⟨h 227 _ h1.1 _ (Int.le_refl _) (by dsimp only; omega), h 227 _ h1.1 _ (by dsimp only; omega) (Int.le_refl _), h 227 _ h1.2 _ (Int.le_refl _) (Int.le_refl _)⟩
/-! how it changes -/
theorem j_image {t : List (Int × Int × Int × Int)} {f7 f8 f9 fA g : Int → Int} (h : jP t f7 f8 f9 fA) (hg : ∀ j, 0 ≤ j → j < 1244 → g j = f7 j) : jP t f7 g f9 fA := by
  obtain ⟨⟨o7, o8, o9, oA⟩, tA, t7, t8, t9⟩ := h
  exact ⟨⟨o7, jO_cg2 (fun j h1 h2 => hg j h1 (by omega)) o7, o9, oA⟩, tA, t7, jT_cg (fun j h1 h2 => hg _ (by omega) (by omega)) t7, t9⟩
theorem j_before {t : List (Int × Int × Int × Int)} {f7 f8 f9 fA g : Int → Int} (h : jP t f7 f8 f9 fA) (hg : ∀ j, 0 ≤ j → j < 1244 → g j = f7 j) : jP t f7 f8 g fA := by
  obtain ⟨⟨o7, o8, o9, oA⟩, tA, t7, t8, t9⟩ := h
  exact ⟨⟨o7, o8, jO_cg2 (fun j h1 h2 => hg j h1 (by omega)) o7, oA⟩, tA, t7, t8, jT_cg (fun j h1 h2 => hg _ (by omega) (by omega)) t7⟩
theorem j_back {t : List (Int × Int × Int × Int)} {f7 f8 f9 fA g : Int → Int} (h : jP t f7 f8 f9 fA) (hg : ∀ j, 0 ≤ j → j < 1244 → g j = f8 j) : jP t g f8 f9 fA := by
  obtain ⟨⟨o7, o8, o9, oA⟩, tA, t7, t8, t9⟩ := h
  exact ⟨⟨jO_cg2 (fun j h1 h2 => hg j h1 (by omega)) o8, o8, o9, oA⟩, tA, jT_cg (fun j h1 h2 => hg _ (by omega) (by omega)) t8, t8, t9⟩
theorem j_again {t : List (Int × Int × Int × Int)} {f7 f8 f9 fA g : Int → Int} (h : jP t f7 f8 f9 fA) (hg : ∀ j, 0 ≤ j → j < 1244 → g j = f9 j) : jP t g f8 f9 fA := by
  obtain ⟨⟨o7, o8, o9, oA⟩, tA, t7, t8, t9⟩ := h
  exact ⟨⟨jO_cg2 (fun j h1 h2 => hg j h1 (by omega)) o9, o8, o9, oA⟩, tA, jT_cg (fun j h1 h2 => hg _ (by omega) (by omega)) t9, t8, t9⟩
theorem j_law {t : List (Int × Int × Int × Int)} {f7 f8 f9 fA g : Int → Int} (h : jP t f7 f8 f9 fA) (hg : ∀ j, 0 ≤ j → j < 395 → g j = f7 j) (ht : jT (fun j => g (395 + j))) : jP t g f8 f9 fA := by
  obtain ⟨⟨o7, o8, o9, oA⟩, tA, t7, t8, t9⟩ := h
  exact ⟨⟨jO_cg2 hg o7, o8, o9, oA⟩, tA, ht, t8, t9⟩
theorem j_undo {t : List (Int × Int × Int × Int)} {f7 f8 f9 fA g : Int → Int} {y : Int} (h : jP t f7 f8 f9 fA) (hy : 0 ≤ y ∧ y < 12) (hg : ∀ j, 0 ≤ j → j < 395 → g j = fA (395 * y + j)) (hg2 : ∀ j, 395 ≤ j → j < 1244 → g j = f7 j) : jP t g f8 f9 fA := by
  obtain ⟨⟨o7, o8, o9, oA⟩, tA, t7, t8, t9⟩ := h
  exact ⟨⟨jO_cg2 (f := fun j => fA (395 * y + j)) hg (oA y hy.1 hy.2), o8, o9, oA⟩, tA, jT_cg (fun j h1 h2 => hg2 _ (by omega) (by omega)) t7, t8, t9⟩
theorem j_shift {t : List (Int × Int × Int × Int)} {f7 f8 f9 fA g : Int → Int} (h : jP t f7 f8 f9 fA) (hg : ∀ j, 0 ≤ j → j < 4345 → g j = fA (j + 395)) (hg2 : ∀ j, 4345 ≤ j → j < 4740 → g j = fA j) : jP t f7 f8 f9 g := by
  obtain ⟨⟨o7, o8, o9, oA⟩, tA, t7, t8, t9⟩ := h
  refine ⟨⟨o7, o8, o9, fun y y1 y2 => ?_⟩, fun y y1 y2 r hr j h1 h2 h3 h4 => ?_, t7, t8, t9⟩
  · by_cases e : y < 11
    · refine jO_cg2 (f := fun j => fA (395 * (y + 1) + j)) (fun j h1 h2 => ?_) (oA (y + 1) (by omega) (by omega))
      rw [hg _ (by omega) (by omega)]
      congr 1
      omega
    · exact jO_cg2 (f := fun j => fA (395 * y + j)) (fun j h1 h2 => hg2 _ (by omega) (by omega)) (oA y y1 y2)
  · by_cases e : y < 11
    · rw [hg _ (by omega) (by omega), show 395 * y + j + 395 = 395 * (y + 1) + j by omega]
      exact tA (y + 1) (by omega) (by omega) r hr j h1 h2 h3 h4
    · rw [hg2 _ (by omega) (by omega)]
      exact tA y y1 y2 r hr j h1 h2 h3 h4
theorem j_store {t : List (Int × Int × Int × Int)} {f7 f8 f9 fA g : Int → Int} {y0 : Int} (h : jP t f7 f8 f9 fA) (ht : ∀ r ∈ t, ∀ j, r.1 ≤ j → j ≤ r.2.1 → 0 ≤ j → j < 395 → (-2147483648 ≤ f7 j ∧ f7 j < 2147483648) ∧ r.2.2.1 ≤ f7 j ∧ f7 j ≤ r.2.2.2) (hg : ∀ j, 0 ≤ j → j < 395 → g (395 * y0 + j) = f7 j) (hg2 : ∀ j, ¬ (395 * y0 ≤ j ∧ j < 395 * y0 + 395) → g j = fA j) : jP t f7 f8 f9 g := by
  obtain ⟨⟨o7, o8, o9, oA⟩, tA, t7, t8, t9⟩ := h
  refine ⟨⟨o7, o8, o9, fun y y1 y2 => ?_⟩, fun y y1 y2 r hr j h1 h2 h3 h4 => ?_, t7, t8, t9⟩
  · by_cases e : y = y0
    · subst e
      exact jO_cg2 (f := f7) (fun j h1 h2 => hg j h1 h2) o7
    · exact jO_cg2 (f := fun j => fA (395 * y + j)) (fun j h1 h2 => hg2 _ (by omega)) (oA y y1 y2)
  · by_cases e : y = y0
    · subst e
      rw [hg j h3 h4]
      exact ht r hr j h1 h2 h3 h4
    · rw [hg2 _ (by omega)]
      exact tA y y1 y2 r hr j h1 h2 h3 h4
/-- something is thrown in as number l -/
theorem jO_throw {f g : Int → Int} {l0 : Nat} (hf : jO f) (h4 : g 4 = f 4 + 1) (h14 : g 14 = f 14) (hs : ∀ l : Nat, l < 24 → ¬ l = l0 → g (119 + 7 * (l : Int)) = f (119 + 7 * (l : Int)) ∧ g (120 + 7 * (l : Int)) = f (120 + 7 * (l : Int)) ∧ g (124 + 7 * (l : Int)) = f (124 + 7 * (l : Int))) (h0 : 0 ≤ g (119 + 7 * (l0 : Int)) → 0 ≤ g (120 + 7 * (l0 : Int))) : jO g := by
  refine ⟨?_, fun l hl h1 => ?_⟩
  · have h1 := jcn_up (f := f) (g := g) (l0 := l0) 24 (fun l hl hne => (hs l hl hne).2.2)
    have h2 := hf.1
    omega
  · by_cases e : l = l0
    · subst e
      exact h0 h1
    · rw [(hs l hl e).1] at h1
      rw [(hs l hl e).2.1]
      exact hf.2 l hl h1
/-- letter l is opened -/
theorem jO_open {f g : Int → Int} {l0 : Nat} (hl0 : l0 < 24) (hf : jO f) (h4 : g 4 = f 4) (h14 : g 14 = f 14 + 1) (hb : f (124 + 7 * (l0 : Int)) < 0) (hb2 : 0 ≤ g (124 + 7 * (l0 : Int))) (hs : ∀ l : Nat, l < 24 → g (119 + 7 * (l : Int)) = f (119 + 7 * (l : Int)) ∧ g (120 + 7 * (l : Int)) = f (120 + 7 * (l : Int)) ∧ (¬ l = l0 → g (124 + 7 * (l : Int)) = f (124 + 7 * (l : Int)))) : jO g := by
  refine ⟨?_, fun l hl h1 => ?_⟩
  · have h1 := jcn_dn (f := f) (g := g) hb hb2 24 hl0 (fun l hl hne => (hs l hl).2.2 hne)
    have h2 := hf.1
    omega
  · rw [(hs l hl).1] at h1
    rw [(hs l hl).2.1]
    exact hf.2 l hl h1
theorem jO_lt {f : Int → Int} {l0 : Nat} (hl0 : l0 < 24) (hf : jO f) (hb : f (124 + 7 * (l0 : Int)) < 0) : f 14 < f 4 := by
  have h1 := jcn_pos (f := f) hb 24 hl0
  have h2 := hf.1
  omega
end
