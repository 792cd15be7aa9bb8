/-! THE CHECKER: the instructions, one by one. -/
section CI
variable {O : gm_Or} {X : Int → Int} {LX : Nat} {lx : Option Nat} {XF : List (Int × Int × ck_I)} {E : List (Nat × List ck_Sum)} {mi d n0 : Nat} {W : List (Nat × Int × Int) × List (Nat × Int)} {outs : List ck_Oc} {bc bs pc : Nat} {L : gm_L} {st : List gm_V} {n : Nat} {K : gm_K} {R : gm_R} {M : gm_M} {AL : ck_AL} {AS : ck_AS} {F : ck_F} {σ σ0 : Nat → Int} {K0 : gm_K} {R0 : gm_R} {M0 : gm_M} {k : Nat → Nat → Nat → ck_AL → ck_AS → Nat → ck_F → Bool}
theorem ck_j_ineg   (hat : gm_at mi pc = some (.ineg)) (hS : ck_St O σ W n0 K0 R0 M0 AL AS F L st n K R M) (hk : ck_On O X LX σ mi d W n0 K0 R0 M0 (ck_Q O σ0 W n0 K0 R0 M0 outs) k) (h : ck_j O lx XF E mi d n0 W outs bc bs pc AL AS n F k (.ineg) = true) : gm_Wp X LX d bc bs mi pc L st n K R M (ck_Q O σ0 W n0 K0 R0 M0 outs) := by
  rcases AS with _ | ⟨⟨a | a | r | c, s⟩, AS⟩ <;> (try exact absurd (show false = true from h) Bool.false_ne_true)
  obtain ⟨f1, f2, f3, f4, f5⟩ := hS
  obtain ⟨x, st, rfl, hx, ha, -, hst⟩ := ck_qi f3
  refine gm_sz (gm_p_un hat rfl) (ck_nv (hk _ _ _ _ _ _ _ _ _ _ _ _ h ⟨f1, f2, ck_pi (ck_w_ir _) (ck_nrm_s ⟨?_, ?_, ck_gt_none⟩) trivial hst, f4, f5⟩))
  · have := ha.2.1
    show - a.2.1 ≤ - x
    omega
  · have := ha.1
    show - x ≤ - a.1
    omega
theorem ck_j_i2b   (hat : gm_at mi pc = some (.i2b)) (hS : ck_St O σ W n0 K0 R0 M0 AL AS F L st n K R M) (hk : ck_On O X LX σ mi d W n0 K0 R0 M0 (ck_Q O σ0 W n0 K0 R0 M0 outs) k) (h : ck_j O lx XF E mi d n0 W outs bc bs pc AL AS n F k (.i2b) = true) : gm_Wp X LX d bc bs mi pc L st n K R M (ck_Q O σ0 W n0 K0 R0 M0 outs) := by
  rcases AS with _ | ⟨⟨a | a | r | c, s⟩, AS⟩ <;> (try exact absurd (show false = true from h) Bool.false_ne_true)
  obtain ⟨f1, f2, f3, f4, f5⟩ := hS
  obtain ⟨x, st, rfl, hx, ha, -, hst⟩ := ck_qi f3
  have h0 : -128 ≤ gm_wb x ∧ gm_wb x ≤ 127 := by unfold gm_wb; omega
  refine gm_sz (gm_p_un hat rfl) (hk _ _ _ _ _ _ _ _ _ _ _ _ h ⟨f1, f2, ck_pi (by unfold gm_ir; omega) ?_ trivial hst, f4, f5⟩)
  split
  · rename_i e
    have h1 : gm_wb x = x := by
      have := ha.1
      have := ha.2.1
      unfold gm_wb
      omega
    rw [h1]
    exact ha
  · exact ⟨h0.1, h0.2, ck_gt_none⟩
theorem ck_j_i2l   (hat : gm_at mi pc = some (.i2l)) (hS : ck_St O σ W n0 K0 R0 M0 AL AS F L st n K R M) (hk : ck_On O X LX σ mi d W n0 K0 R0 M0 (ck_Q O σ0 W n0 K0 R0 M0 outs) k) (h : ck_j O lx XF E mi d n0 W outs bc bs pc AL AS n F k (.i2l) = true) : gm_Wp X LX d bc bs mi pc L st n K R M (ck_Q O σ0 W n0 K0 R0 M0 outs) := by
  rcases AS with _ | ⟨⟨a | a | r | c, s⟩, AS⟩ <;> (try exact absurd (show false = true from h) Bool.false_ne_true)
  obtain ⟨f1, f2, f3, f4, f5⟩ := hS
  obtain ⟨x, st, rfl, hx, ha, -, hst⟩ := ck_qi f3
  have h1 := gm_p_i2l (X := X) (LX := LX) (d := d) (L := L) (st := st) (n := n) (K := K) (R := R) (M := M) (x := x) hat
  rw [gm_ir_w hx] at h1
  exact gm_sz h1 (hk _ _ _ _ _ _ _ _ _ _ _ _ h ⟨f1, f2, ck_pl (ck_r6_i hx) ha hst, f4, f5⟩)
theorem ck_j_l2i   (hat : gm_at mi pc = some (.l2i)) (hS : ck_St O σ W n0 K0 R0 M0 AL AS F L st n K R M) (hk : ck_On O X LX σ mi d W n0 K0 R0 M0 (ck_Q O σ0 W n0 K0 R0 M0 outs) k) (h : ck_j O lx XF E mi d n0 W outs bc bs pc AL AS n F k (.l2i) = true) : gm_Wp X LX d bc bs mi pc L st n K R M (ck_Q O σ0 W n0 K0 R0 M0 outs) := by
  rcases AS with _ | ⟨⟨a | a | r | c, s⟩, AS⟩ <;> (try exact absurd (show false = true from h) Bool.false_ne_true)
  obtain ⟨f1, f2, f3, f4, f5⟩ := hS
  obtain ⟨x, st, rfl, hx, ha, hst⟩ := ck_ql f3
  exact gm_sz (gm_p_l2i hat) (ck_nv (hk _ _ _ _ _ _ _ _ _ _ _ _ h ⟨f1, f2, ck_pi (ck_w_ir _) (ck_nrm_s ha) trivial hst, f4, f5⟩))
theorem ck_j_lcmp   (hat : gm_at mi pc = some (.lcmp)) (hS : ck_St O σ W n0 K0 R0 M0 AL AS F L st n K R M) (hk : ck_On O X LX σ mi d W n0 K0 R0 M0 (ck_Q O σ0 W n0 K0 R0 M0 outs) k) (h : ck_j O lx XF E mi d n0 W outs bc bs pc AL AS n F k (.lcmp) = true) : gm_Wp X LX d bc bs mi pc L st n K R M (ck_Q O σ0 W n0 K0 R0 M0 outs) := by
  rcases AS with _ | ⟨⟨b | b | r | c, t⟩, _ | ⟨⟨a | a | r' | c', s⟩, AS⟩⟩ <;> (try exact absurd (show false = true from h) Bool.false_ne_true)
  obtain ⟨f1, f2, f3, f4, f5⟩ := hS
  obtain ⟨y, st, rfl, hy, hb, hst⟩ := ck_ql f3
  obtain ⟨x, st, rfl, hx, ha, hst⟩ := ck_ql hst
  have hx1 : gm_w6 x = x := by unfold ck_r6 at hx; unfold gm_w6; omega
  have hy1 : gm_w6 y = y := by unfold ck_r6 at hy; unfold gm_w6; omega
  have h0 : gm_lcm x y = if y < x then 1 else if x = y then 0 else -1 := by unfold gm_lcm; rw [hx1, hy1]
  refine gm_sz (gm_p_lcmp hat) (hk _ _ _ _ _ _ _ _ _ _ _ _ h ⟨f1, f2, ck_pi ?_ ?_ trivial hst, f4, f5⟩)
  · rw [h0]
    split
    · exact ⟨by decide, by decide⟩
    · split <;> exact ⟨by decide, by decide⟩
  · obtain ⟨a1, a2, a3⟩ := _root_.id ha
    obtain ⟨b1, b2, b3⟩ := _root_.id hb
    split
    · rename_i e
      simp only [Bool.and_eq_true, Bool.or_eq_true] at e
      obtain ⟨⟨e1, e2⟩, e3⟩ := e
      have hxy : x = y := by
        rcases e3 with e3 | e4
        · have e5 := ck_sg_s ha e3
          have e6 := ck_leI_s e2 hb
          have e7 := ck_sg_s e6 e3
          omega
        · unfold ck_ex at e4
          obtain ⟨p, hp, e8⟩ := List.any_eq_true.mp e4
          have e8 := of_decide_eq_true e8
          have e5 := ((ck_leI_s e1 ha).2.2 p hp).1 e8
          have e6 := (b3 p hp).1 e8
          omega
      rw [h0, if_neg (by omega), if_pos hxy]
      exact ck_one_s 0
    · split
      · rw [h0, if_neg (by omega), if_neg (by omega)]
        exact ck_one_s (-1)
      · split
        · rw [h0, if_pos (by omega)]
          exact ck_one_s 1
        · rw [h0]
          refine ⟨?_, ?_, ck_gt_none⟩ <;> dsimp only <;> split <;> (try split) <;> decide
theorem ck_j_idiv   (hat : gm_at mi pc = some (.idiv)) (hS : ck_St O σ W n0 K0 R0 M0 AL AS F L st n K R M) (hk : ck_On O X LX σ mi d W n0 K0 R0 M0 (ck_Q O σ0 W n0 K0 R0 M0 outs) k) (h : ck_j O lx XF E mi d n0 W outs bc bs pc AL AS n F k (.idiv) = true) : gm_Wp X LX d bc bs mi pc L st n K R M (ck_Q O σ0 W n0 K0 R0 M0 outs) := by
  rcases AS with _ | ⟨⟨b | b | r | c, t⟩, _ | ⟨⟨a | a | r' | c', s⟩, AS⟩⟩ <;> (try exact absurd (show false = true from h) Bool.false_ne_true)
  obtain ⟨f1, f2, f3, f4, f5⟩ := hS
  obtain ⟨y, st, rfl, hy, hb, -, hst⟩ := ck_qi f3
  obtain ⟨x, st, rfl, hx, ha, hsx, hst⟩ := ck_qi hst
  have h : ((decide (0 < b.1) || decide (b.2.1 < 0)) && cond (ck_sgl a b s) (ck_br .lt a s (ck_one 0) none AL F (fun AL F => k bc bs (pc + 1) AL ((.inl (ck_dv (ck_rf .lt a (ck_one 0)) b), none) :: AS) n F) && ck_br .ge a s (ck_one 0) none AL F (fun AL F => k bc bs (pc + 1) AL ((.inl (ck_dv (ck_rf .ge a (ck_one 0)) b), none) :: AS) n F)) (k bc bs (pc + 1) AL ((.inl (ck_dv a b), none) :: AS) n F)) = true := h
  rw [Bool.and_eq_true] at h
  obtain ⟨h8, h⟩ := h
  simp only [Bool.or_eq_true, decide_eq_true_eq] at h8
  obtain ⟨b1, b2, b3⟩ := _root_.id hb
  have hne : ¬ gm_w y = 0 := by rw [gm_ir_w hy]; omega
  have h0 : gm_div x y = Int.tdiv x y := by unfold gm_div; rw [gm_ir_w hx, gm_ir_w hy]
  have key : ∀ a' : ck_I, ck_gi σ a' x → ck_gi σ (ck_dv a' b) (gm_w (gm_div x y)) := by
    intro a' ha'
    obtain ⟨a1, a2, a3⟩ := _root_.id ha'
    rw [h0]
    unfold ck_dv
    split
    · rename_i e
      rw [Bool.and_eq_true] at e
      rw [ck_sg_s ha' e.1, ck_sg_s hb e.2]
      exact ck_one_s _
    · split
      · rename_i e
        have hx0 : 0 ≤ x := by omega
        have hy0 : 0 < y := by omega
        have h3 : Int.tdiv x y = x / y := Int.tdiv_eq_ediv_of_nonneg hx0
        have h4 : 0 ≤ x / y := Int.ediv_nonneg hx0 (by omega)
        have h5 : x / y ≤ x := Int.ediv_le_self y hx0
        rw [h3]
        rw [gm_ir_w (by unfold gm_ir at hx ⊢; omega)]
        exact ⟨h4, by dsimp only; omega, ck_gt_none⟩
      · exact ck_top_s _
  refine gm_sz (gm_p_div hat hne) (ck_nv ?_)
  cases hg : ck_sgl a b s with
  | false =>
    rw [hg] at h
    exact hk _ _ _ _ _ _ _ _ _ _ _ _ h ⟨f1, f2, ck_pi (ck_w_ir _) (key a ha) (s := none) trivial hst, f4, f5⟩
  | true =>
    rw [hg] at h
    have h : (ck_br .lt a s (ck_one 0) none AL F (fun AL F => k bc bs (pc + 1) AL ((.inl (ck_dv (ck_rf .lt a (ck_one 0)) b), none) :: AS) n F) && ck_br .ge a s (ck_one 0) none AL F (fun AL F => k bc bs (pc + 1) AL ((.inl (ck_dv (ck_rf .ge a (ck_one 0)) b), none) :: AS) n F)) = true := h
    rw [Bool.and_eq_true] at h
    have hS0 : ck_St O σ W n0 K0 R0 M0 AL AS F L st n K R M := ⟨f1, f2, hst, f4, f5⟩
    by_cases hx0 : x < 0
    · have hc : gm_cm .lt x 0 := hx0
      exact ck_br_s (c := .lt) hS0 hx ha hsx ⟨by decide, by decide⟩ (ck_one_s 0) (t := none) trivial hc h.1 (fun AL F hq hS => hk _ _ _ _ _ _ _ _ _ _ _ _ hq ⟨hS.1, hS.2.1, ck_pi (ck_w_ir _) (key _ (ck_rf_s ha (ck_one_s 0) hc)) (s := none) trivial hS.2.2.1, hS.2.2.2.1, hS.2.2.2.2⟩)
    · have hc : gm_cm .ge x 0 := by show (0 : Int) ≤ x; omega
      exact ck_br_s (c := .ge) hS0 hx ha hsx ⟨by decide, by decide⟩ (ck_one_s 0) (t := none) trivial hc h.2 (fun AL F hq hS => hk _ _ _ _ _ _ _ _ _ _ _ _ hq ⟨hS.1, hS.2.1, ck_pi (ck_w_ir _) (key _ (ck_rf_s ha (ck_one_s 0) hc)) (s := none) trivial hS.2.2.1, hS.2.2.2.1, hS.2.2.2.2⟩)
theorem ck_j_irem   (hat : gm_at mi pc = some (.irem)) (hS : ck_St O σ W n0 K0 R0 M0 AL AS F L st n K R M) (hk : ck_On O X LX σ mi d W n0 K0 R0 M0 (ck_Q O σ0 W n0 K0 R0 M0 outs) k) (h : ck_j O lx XF E mi d n0 W outs bc bs pc AL AS n F k (.irem) = true) : gm_Wp X LX d bc bs mi pc L st n K R M (ck_Q O σ0 W n0 K0 R0 M0 outs) := by
  rcases AS with _ | ⟨⟨b | b | r | c, t⟩, _ | ⟨⟨a | a | r' | c', s⟩, AS⟩⟩ <;> (try exact absurd (show false = true from h) Bool.false_ne_true)
  obtain ⟨f1, f2, f3, f4, f5⟩ := hS
  obtain ⟨y, st, rfl, hy, hb, -, hst⟩ := ck_qi f3
  obtain ⟨x, st, rfl, hx, ha, -, hst⟩ := ck_qi hst
  have h : ((decide (0 < b.1) || decide (b.2.1 < 0)) && k bc bs (pc + 1) AL ((.inl (if (ck_sg a && ck_sg b) = true then ck_one (gm_w (Int.tmod a.1 b.1)) else if 0 ≤ a.1 ∧ 0 < b.1 then (0, b.2.1 - 1, []) else ck_top), none) :: AS) n F) = true := h
  simp only [Bool.and_eq_true, Bool.or_eq_true, decide_eq_true_eq] at h
  obtain ⟨a1, a2, a3⟩ := _root_.id ha
  obtain ⟨b1, b2, b3⟩ := _root_.id hb
  have hne : ¬ gm_w y = 0 := by rw [gm_ir_w hy]; omega
  have h0 : gm_rem x y = Int.tmod x y := by unfold gm_rem; rw [gm_ir_w hx, gm_ir_w hy]
  refine gm_sz (gm_p_rem hat hne) (ck_nv (hk _ _ _ _ _ _ _ _ _ _ _ _ h.2 ⟨f1, f2, ck_pi (ck_w_ir _) ?_ trivial hst, f4, f5⟩))
  rw [h0]
  split
  · rename_i e
    rw [ck_sg_s ha e.1, ck_sg_s hb e.2]
    exact ck_one_s _
  · split
    · rename_i e
      have hx0 : 0 ≤ x := by omega
      have hy0 : 0 < y := by omega
      have h3 : Int.tmod x y = x % y := Int.tmod_eq_emod_of_nonneg hx0
      have h4 : 0 ≤ x % y := Int.emod_nonneg x (by omega)
      have h5 : x % y < y := Int.emod_lt_of_pos x hy0
      rw [h3]
      rw [gm_ir_w (by unfold gm_ir at hy ⊢; omega)]
      exact ⟨h4, by dsimp only; omega, ck_gt_none⟩
    · exact ck_top_s _
theorem ck_j_dup   (hat : gm_at mi pc = some (.dup)) (hS : ck_St O σ W n0 K0 R0 M0 AL AS F L st n K R M) (hk : ck_On O X LX σ mi d W n0 K0 R0 M0 (ck_Q O σ0 W n0 K0 R0 M0 outs) k) (h : ck_j O lx XF E mi d n0 W outs bc bs pc AL AS n F k (.dup) = true) : gm_Wp X LX d bc bs mi pc L st n K R M (ck_Q O σ0 W n0 K0 R0 M0 outs) := by
  rcases AS with _ | ⟨q, AS⟩ <;> (try exact absurd (show false = true from h) Bool.false_ne_true)
  obtain ⟨f1, f2, f3, f4, f5⟩ := hS
  obtain ⟨v, st, rfl, hso, hv, hst⟩ := ck_q1 f3
  have h : (!(ck_so q.1 == 1) && k bc bs (pc + 1) AL (q :: q :: AS) n F) = true := h
  simp only [Bool.and_eq_true, Bool.not_eq_true', beq_eq_false_iff_ne, ne_eq] at h
  exact gm_sz (gm_p_dup hat (by rw [hso]; exact h.1)) (hk _ _ _ _ _ _ _ _ _ _ _ _ h.2 ⟨f1, f2, ⟨v, v :: st, rfl, hv, v, st, rfl, hv, hst⟩, f4, f5⟩)
theorem ck_j_pop   (hat : gm_at mi pc = some (.pop)) (hS : ck_St O σ W n0 K0 R0 M0 AL AS F L st n K R M) (hk : ck_On O X LX σ mi d W n0 K0 R0 M0 (ck_Q O σ0 W n0 K0 R0 M0 outs) k) (h : ck_j O lx XF E mi d n0 W outs bc bs pc AL AS n F k (.pop) = true) : gm_Wp X LX d bc bs mi pc L st n K R M (ck_Q O σ0 W n0 K0 R0 M0 outs) := by
  rcases AS with _ | ⟨q, AS⟩ <;> (try exact absurd (show false = true from h) Bool.false_ne_true)
  obtain ⟨f1, f2, f3, f4, f5⟩ := hS
  obtain ⟨v, st, rfl, hso, hv, hst⟩ := ck_q1 f3
  have h : (!(ck_so q.1 == 1) && k bc bs (pc + 1) AL AS n F) = true := h
  simp only [Bool.and_eq_true, Bool.not_eq_true', beq_eq_false_iff_ne, ne_eq] at h
  exact gm_sz (gm_p_pop hat (by rw [hso]; exact h.1)) (hk _ _ _ _ _ _ _ _ _ _ _ _ h.2 ⟨f1, f2, hst, f4, f5⟩)
theorem ck_j_dup2   (hat : gm_at mi pc = some (.dup2)) (hS : ck_St O σ W n0 K0 R0 M0 AL AS F L st n K R M) (hk : ck_On O X LX σ mi d W n0 K0 R0 M0 (ck_Q O σ0 W n0 K0 R0 M0 outs) k) (h : ck_j O lx XF E mi d n0 W outs bc bs pc AL AS n F k (.dup2) = true) : gm_Wp X LX d bc bs mi pc L st n K R M (ck_Q O σ0 W n0 K0 R0 M0 outs) := by
  rcases AS with _ | ⟨q, _ | ⟨q2, AS⟩⟩ <;> (try exact absurd (show false = true from h) Bool.false_ne_true)
  obtain ⟨f1, f2, f3, f4, f5⟩ := hS
  obtain ⟨v, st, rfl, hso, hv, hst⟩ := ck_q1 f3
  obtain ⟨u, st, rfl, hso2, hu, hst⟩ := ck_q1 hst
  have h : ((!(ck_so q.1 == 1) && !(ck_so q2.1 == 1)) && k bc bs (pc + 1) AL (q :: q2 :: q :: q2 :: AS) n F) = true := h
  simp only [Bool.and_eq_true, Bool.not_eq_true', beq_eq_false_iff_ne, ne_eq] at h
  exact gm_sz (gm_p_dup2 hat (by rw [hso]; exact h.1.1) (by rw [hso2]; exact h.1.2)) (hk _ _ _ _ _ _ _ _ _ _ _ _ h.2 ⟨f1, f2, ⟨v, _, rfl, hv, u, _, rfl, hu, v, _, rfl, hv, u, _, rfl, hu, hst⟩, f4, f5⟩)
theorem ck_j_iinc {j : Nat} {z : Int}  (hat : gm_at mi pc = some (.iinc j z)) (hS : ck_St O σ W n0 K0 R0 M0 AL AS F L st n K R M) (hk : ck_On O X LX σ mi d W n0 K0 R0 M0 (ck_Q O σ0 W n0 K0 R0 M0 outs) k) (h : ck_j O lx XF E mi d n0 W outs bc bs pc AL AS n F k (.iinc j z) = true) : gm_Wp X LX d bc bs mi pc L st n K R M (ck_Q O σ0 W n0 K0 R0 M0 outs) := by
  obtain ⟨f1, f2, f3, f4, f5⟩ := hS
  unfold ck_j at h
  dsimp only at h
  split at h
  · rename_i a hj
    obtain ⟨u, hu, x, rfl, hx, ha⟩ := f2.2 j _ hj
    split at h
    case isFalse => exact gm_sz (gm_p_iinc hat hu) (ck_nvL (hk _ _ _ _ _ _ _ _ _ _ _ _ h ⟨f1, ck_lst_s f2 (a := .inl _) ⟨_, rfl, ck_w_ir _, ck_top_s _⟩, ck_sl_s f3, f4, f5⟩))
    rename_i h1
    have ha2 : ck_gi σ (a.1 + z, a.2.1 + z, ck_mv a.2.2 z) (x + z) := ⟨Int.add_le_add_right ha.1 z, Int.add_le_add_right ha.2.1 z, ck_mv_s ha.2.2⟩
    have hx2 : gm_ir (x + z) := ck_in_s (σ := σ) (a := (a.1 + z, a.2.1 + z, [])) ⟨ha2.1, ha2.2.1, ck_gt_none⟩ h1
    exact gm_sz (gm_p_iinc hat hu) (hk _ _ _ _ _ _ _ _ _ _ _ _ h ⟨f1, ck_lst_s f2 (a := .inl _) ⟨_, rfl, hx2, ha2⟩, ck_sl_s f3, f4, f5⟩)
  · cases h
theorem ck_j_goto {off : Int}  (hat : gm_at mi pc = some (.goto off)) (hS : ck_St O σ W n0 K0 R0 M0 AL AS F L st n K R M) (hk : ck_On O X LX σ mi d W n0 K0 R0 M0 (ck_Q O σ0 W n0 K0 R0 M0 outs) k) (h : ck_j O lx XF E mi d n0 W outs bc bs pc AL AS n F k (.goto off) = true) : gm_Wp X LX d bc bs mi pc L st n K R M (ck_Q O σ0 W n0 K0 R0 M0 outs) := by
  obtain ⟨f1, f2, f3, f4, f5⟩ := hS
  have h : (decide (0 ≤ (pc : Int) + off) && k bc bs (gm_tgt pc off) AL AS n F) = true := h
  simp only [Bool.and_eq_true, decide_eq_true_eq] at h
  exact gm_sz (gm_p_goto hat h.1) (hk _ _ _ _ _ _ _ _ _ _ _ _ h.2 ⟨f1, f2, f3, f4, f5⟩)
theorem ck_rE_St (hS : ck_St O σ W n0 K0 R0 M0 AL AS F L st n K R M) : ck_St O σ W n0 K0 R0 M0 AL AS (ck_rE O F) L st n K R M := ⟨hS.1, hS.2.1, hS.2.2.1, ck_rE_s hS.1 hS.2.2.2.1, hS.2.2.2.2⟩
theorem ck_j_if {cc : ClassFile.Cond} {off : Int}  (hat : gm_at mi pc = some (.ifCond cc off)) (hS : ck_St O σ W n0 K0 R0 M0 AL AS F L st n K R M) (hk : ck_On O X LX σ mi d W n0 K0 R0 M0 (ck_Q O σ0 W n0 K0 R0 M0 outs) k) (h : ck_j O lx XF E mi d n0 W outs bc bs pc AL AS n F k (.ifCond cc off) = true) : gm_Wp X LX d bc bs mi pc L st n K R M (ck_Q O σ0 W n0 K0 R0 M0 outs) := by
  rcases AS with _ | ⟨⟨a | a | r | c, s⟩, AS⟩ <;> (try exact absurd (show false = true from h) Bool.false_ne_true)
  obtain ⟨x, st, rfl, hx, ha, hs9, hst⟩ := ck_qi hS.2.2.1
  have hS2 : ck_St O σ W n0 K0 R0 M0 AL AS F L st n K R M := ⟨hS.1, hS.2.1, hst, hS.2.2.2.1, hS.2.2.2.2⟩
  have h : (decide (0 ≤ (pc : Int) + off) && (ck_br cc a s (ck_one 0) none AL F (fun AL F => k bc bs (gm_tgt pc off) AL AS n (ck_rE O F)) && ck_br (ck_ng cc) a s (ck_one 0) none AL F (fun AL F => k bc bs (pc + 3) AL AS n (ck_rE O F)))) = true := h
  simp only [Bool.and_eq_true, decide_eq_true_eq] at h
  obtain ⟨h1, h2, h3⟩ := h
  have h0 : gm_ir 0 := ⟨by decide, by decide⟩
  refine gm_b_if hat h1 (fun hc => ?_) (fun hc => ?_)
  · rw [gm_cm_w hx h0] at hc
    exact ck_br_s hS2 hx ha hs9 h0 (ck_one_s 0) (t := none) trivial hc h2 (fun AL F hq hS => hk _ _ _ _ _ _ _ _ _ _ _ _ hq (ck_rE_St hS))
  · rw [gm_cm_w hx h0] at hc
    exact ck_br_s hS2 hx ha hs9 h0 (ck_one_s 0) (t := none) trivial (ck_ng_s hc) h3 (fun AL F hq hS => hk _ _ _ _ _ _ _ _ _ _ _ _ hq (ck_rE_St hS))
theorem ck_j_ic {cc : ClassFile.Cond} {off : Int}  (hat : gm_at mi pc = some (.if_icmp cc off)) (hS : ck_St O σ W n0 K0 R0 M0 AL AS F L st n K R M) (hk : ck_On O X LX σ mi d W n0 K0 R0 M0 (ck_Q O σ0 W n0 K0 R0 M0 outs) k) (h : ck_j O lx XF E mi d n0 W outs bc bs pc AL AS n F k (.if_icmp cc off) = true) : gm_Wp X LX d bc bs mi pc L st n K R M (ck_Q O σ0 W n0 K0 R0 M0 outs) := by
  rcases AS with _ | ⟨⟨b | b | r | c, t⟩, _ | ⟨⟨a | a | r' | c', s⟩, AS⟩⟩ <;> (try exact absurd (show false = true from h) Bool.false_ne_true)
  obtain ⟨y, st, rfl, hy, hb, ht9, hst⟩ := ck_qi hS.2.2.1
  obtain ⟨x, st, rfl, hx, ha, hs9, hst⟩ := ck_qi hst
  have hS2 : ck_St O σ W n0 K0 R0 M0 AL AS F L st n K R M := ⟨hS.1, hS.2.1, hst, hS.2.2.2.1, hS.2.2.2.2⟩
  unfold ck_j at h
  dsimp only at h
  rw [Bool.and_eq_true, decide_eq_true_eq] at h
  obtain ⟨h1, h⟩ := h
  cases hl : ck_lkp O F s t with
  | none =>
    rw [hl] at h
    dsimp only at h
    rw [Bool.and_eq_true] at h
    obtain ⟨h2, h3⟩ := h
    refine gm_b_ic hat h1 (fun hc => ?_) (fun hc => ?_)
    · rw [gm_cm_w hx hy] at hc
      exact ck_br_s hS2 hx ha hs9 hy hb ht9 hc h2 (fun AL F hq hS => hk _ _ _ _ _ _ _ _ _ _ _ _ hq (ck_rE_St hS))
    · rw [gm_cm_w hx hy] at hc
      exact ck_br_s hS2 hx ha hs9 hy hb ht9 (ck_ng_s hc) h3 (fun AL F hq hS => hk _ _ _ _ _ _ _ _ _ _ _ _ hq (ck_rE_St hS))
  | some w =>
    rw [hl] at h
    dsimp only at h
    rw [Bool.and_eq_true] at h
    obtain ⟨h2, h3⟩ := h
    obtain ⟨l1, l2, l3⟩ := ck_lkp_s hS.1 hS.2.2.2.1 hs9 ht9 hl
    have h0 : gm_ir 0 := ⟨by decide, by decide⟩
    refine gm_b_ic hat h1 (fun hc => ?_) (fun hc => ?_)
    · rw [gm_cm_w hx hy, ck_cm0] at hc
      exact ck_br_s hS2 l1 l2 l3 h0 (ck_one_s 0) (t := none) trivial hc h2 (fun AL F hq hS => hk _ _ _ _ _ _ _ _ _ _ _ _ hq (ck_rE_St hS))
    · rw [gm_cm_w hx hy, ck_cm0] at hc
      exact ck_br_s hS2 l1 l2 l3 h0 (ck_one_s 0) (t := none) trivial (ck_ng_s hc) h3 (fun AL F hq hS => hk _ _ _ _ _ _ _ _ _ _ _ _ hq (ck_rE_St hS))
theorem ck_j_ifnull {off : Int}  (hat : gm_at mi pc = some (.ifnull off)) (hS : ck_St O σ W n0 K0 R0 M0 AL AS F L st n K R M) (hk : ck_On O X LX σ mi d W n0 K0 R0 M0 (ck_Q O σ0 W n0 K0 R0 M0 outs) k) (h : ck_j O lx XF E mi d n0 W outs bc bs pc AL AS n F k (.ifnull off) = true) : gm_Wp X LX d bc bs mi pc L st n K R M (ck_Q O σ0 W n0 K0 R0 M0 outs) := by
  rcases AS with _ | ⟨⟨a | a | r | c, s⟩, AS⟩ <;> (try exact absurd (show false = true from h) Bool.false_ne_true)
  obtain ⟨f1, f2, f3, f4, f5⟩ := hS
  obtain ⟨st, rfl, hst⟩ := ck_qr f3
  have h : ((decide (0 ≤ (pc : Int) + off) && decide (r < 100000)) && (if r = 0 then k bc bs (gm_tgt pc off) AL AS n F else k bc bs (pc + 3) AL AS n F)) = true := h
  simp only [Bool.and_eq_true, decide_eq_true_eq] at h
  obtain ⟨⟨h1, h9⟩, h2⟩ := h
  refine gm_b_nul h9 hat h1 (fun hc => ?_) (fun hc => ?_)
  · rw [if_pos hc] at h2
    exact hk _ _ _ _ _ _ _ _ _ _ _ _ h2 ⟨f1, f2, hst, f4, f5⟩
  · rw [if_neg hc] at h2
    exact hk _ _ _ _ _ _ _ _ _ _ _ _ h2 ⟨f1, f2, hst, f4, f5⟩
theorem ck_j_ifnonnull {off : Int}  (hat : gm_at mi pc = some (.ifnonnull off)) (hS : ck_St O σ W n0 K0 R0 M0 AL AS F L st n K R M) (hk : ck_On O X LX σ mi d W n0 K0 R0 M0 (ck_Q O σ0 W n0 K0 R0 M0 outs) k) (h : ck_j O lx XF E mi d n0 W outs bc bs pc AL AS n F k (.ifnonnull off) = true) : gm_Wp X LX d bc bs mi pc L st n K R M (ck_Q O σ0 W n0 K0 R0 M0 outs) := by
  rcases AS with _ | ⟨⟨a | a | r | c, s⟩, AS⟩ <;> (try exact absurd (show false = true from h) Bool.false_ne_true)
  obtain ⟨f1, f2, f3, f4, f5⟩ := hS
  obtain ⟨st, rfl, hst⟩ := ck_qr f3
  have h : ((decide (0 ≤ (pc : Int) + off) && decide (r < 100000)) && (if r = 0 then k bc bs (pc + 3) AL AS n F else k bc bs (gm_tgt pc off) AL AS n F)) = true := h
  simp only [Bool.and_eq_true, decide_eq_true_eq] at h
  obtain ⟨⟨h1, h9⟩, h2⟩ := h
  refine gm_b_nnul h9 hat h1 (fun hc => ?_) (fun hc => ?_)
  · rw [if_neg hc] at h2
    exact hk _ _ _ _ _ _ _ _ _ _ _ _ h2 ⟨f1, f2, hst, f4, f5⟩
  · rw [if_pos hc] at h2
    exact hk _ _ _ _ _ _ _ _ _ _ _ _ h2 ⟨f1, f2, hst, f4, f5⟩
theorem ck_swk_s {a : ck_I} {s : ck_S} {x : Int} {g : Nat → Prop} {kk : Nat → ck_AL → ck_F → Bool} (hS : ck_St O σ W n0 K0 R0 M0 AL AS F L st n K R M) (hx : gm_ir x) (ha : ck_gi σ a x) (hs : ck_gr L M s (gm_vi x)) (hg : ∀ q AL F, kk q AL F = true → ck_St O σ W n0 K0 R0 M0 AL AS F L st n K R M → g q) : ∀ (os : List Int) (v : Int), (gm_ir v ∧ v + os.length ≤ 2147483648) → ck_swk a s AL F pc kk os v = true → gm_swt x g pc os v := by
  intro os
  induction os with
  | nil => intro v _ _; trivial
  | cons o os ih =>
    intro v hv h
    have h : (ck_br .eq a s (ck_one v) none AL F (kk (gm_tgt pc o)) && ck_swk a s AL F pc kk os (v + 1)) = true := h
    rw [Bool.and_eq_true] at h
    simp only [List.length_cons] at hv
    refine ⟨fun e => ?_, ?_⟩
    · have e2 : x = v := by
        rw [gm_ir_w hx] at e
        exact e
      exact ck_br_s hS hx ha hs hv.1 (ck_one_s v) (t := none) trivial (c := .eq) e2 h.1 (fun AL F hq hS => hg _ _ _ hq hS)
    · cases os with
      | nil => trivial
      | cons o2 os => exact ih (v + 1) ⟨by have := hv.1; unfold gm_ir at *; simp only [List.length_cons] at hv; omega, by simp only [List.length_cons] at hv ⊢; omega⟩ h.2
theorem ck_j_sw {df lo hi : Int} {offs : Array Int}  (hat : gm_at mi pc = some (.tableswitch df lo hi offs)) (hS : ck_St O σ W n0 K0 R0 M0 AL AS F L st n K R M) (hk : ck_On O X LX σ mi d W n0 K0 R0 M0 (ck_Q O σ0 W n0 K0 R0 M0 outs) k) (h : ck_j O lx XF E mi d n0 W outs bc bs pc AL AS n F k (.tableswitch df lo hi offs) = true) : gm_Wp X LX d bc bs mi pc L st n K R M (ck_Q O σ0 W n0 K0 R0 M0 outs) := by
  rcases AS with _ | ⟨⟨a | a | r | c, s⟩, AS⟩ <;> (try exact absurd (show false = true from h) Bool.false_ne_true)
  obtain ⟨x, st, rfl, hx, ha, hs9, hst⟩ := ck_qi hS.2.2.1
  have hS2 : ck_St O σ W n0 K0 R0 M0 AL AS F L st n K R M := ⟨hS.1, hS.2.1, hst, hS.2.2.2.1, hS.2.2.2.2⟩
  have h : ((decide (((offs.size : Nat) : Int) = hi - lo + 1) && (decide (0 ≤ (pc : Int) + df) && (offs.toList.all (fun o => decide (0 ≤ (pc : Int) + o)) && (decide (-2147483647 ≤ lo) && decide (hi < 2147483647))))) && ((ck_br .lt a s (ck_one lo) none AL F (fun AL F => k bc bs (gm_tgt pc df) AL AS n F) && ck_br .gt a s (ck_one hi) none AL F (fun AL F => k bc bs (gm_tgt pc df) AL AS n F)) && ck_swk a s AL F pc (fun q AL F => k bc bs q AL AS n F) offs.toList lo)) = true := h
  simp only [Bool.and_eq_true, decide_eq_true_eq, List.all_eq_true] at h
  obtain ⟨⟨h1, h2, h3, h4, h5⟩, ⟨h6, h7⟩, h8⟩ := h
  have hlo : gm_ir lo := by unfold gm_ir; omega
  have hhi : gm_ir hi := by unfold gm_ir; omega
  refine gm_b_sw hat h1 ⟨h2, h3⟩ (fun hc => ?_) (ck_swk_s hS2 hx ha hs9 (fun q AL F hq hS => hk _ _ _ _ _ _ _ _ _ _ _ _ hq hS) _ _ ⟨hlo, ?_⟩ h8)
  · rw [gm_ir_w hx] at hc
    rcases hc with hc | hc
    · exact ck_br_s hS2 hx ha hs9 hlo (ck_one_s lo) (t := none) trivial (c := .lt) hc h6 (fun AL F hq hS => hk _ _ _ _ _ _ _ _ _ _ _ _ hq hS)
    · exact ck_br_s hS2 hx ha hs9 hhi (ck_one_s hi) (t := none) trivial (c := .gt) hc h7 (fun AL F hq hS => hk _ _ _ _ _ _ _ _ _ _ _ _ hq hS)
  · rw [Array.length_toList]
    omega
end CI
