/-! EACH INSTRUCTION's formula is enough. -/
section GI
variable {O : gm_Or} {X : Int → Int} {LX d bc bs mi pc : Nat} {L : gm_L} {st : List gm_V} {n : Nat} {K : gm_K} {R : gm_R} {M : gm_M} {Q Q' : gm_Q} {P : List (Nat × gm_Pu)} {E : List (Nat × gm_Sc)}
theorem gm_sz {pc' : Nat} {L' : gm_L} {st' : List gm_V} {n' : Nat} {K' : gm_K} {R' : gm_R} {M' : gm_M} (h : gm_Sp X LX d mi pc L st n K R M pc' L' st' n' K' R' M' 0 0) (k : gm_Wp X LX d bc bs mi pc' L' st' n' K' R' M' Q) : gm_Wp X LX d bc bs mi pc L st n K R M Q := gm_sp h (Nat.zero_le _) (Nat.zero_le _) k
abbrev gm_On (O : gm_Or) (X : Int → Int) (LX d mi : Nat) (Q : gm_Q) (k : Nat → Nat → Nat → gm_L → List gm_V → Nat → gm_K → gm_R → gm_M → Prop) : Prop := ∀ bc bs pc L st n K R M, gm_Fx O n K R M → k bc bs pc L st n K R M → gm_Wp X LX d bc bs mi pc L st n K R M (gm_Q2 O Q)
variable {k : Nat → Nat → Nat → gm_L → List gm_V → Nat → gm_K → gm_R → gm_M → Prop}
theorem gm_ix {O : gm_Or} {n : Nat} {K : gm_K} {R : gm_R} {M : gm_M} {k0 : Nat} {e : Int} (hF : gm_Fx O n K R M) (h : 0 ≤ e ∧ e < gm_len_ O K k0 ∧ gm_ir e) : gm_w e = e ∧ (0 ≤ gm_w e ∧ gm_w e < (K k0).2) := by
  rw [gm_len_of hF] at h
  have h1 := gm_ir_w h.2.2
  exact ⟨h1, by rw [h1]; exact ⟨h.1, h.2.1⟩⟩
/-- numbers and locals -/
theorem gm_wi_a {i : Instr} (hi : (gm_const i).isSome = true ∨ (gm_load i).isSome = true ∨ (gm_stor i).isSome = true ∨ (gm_bin i).isSome = true ∨ (gm_un i).isSome = true ∨ (gm_lbin i).isSome = true ∨ (gm_lsh i).isSome = true) (hat : gm_at mi pc = some i) (hF : gm_Fx O n K R M) (hk : gm_On O X LX d mi Q k) (h : gm_wi O X LX P E mi Q d bc bs pc L st n K R M k i) : gm_Wp X LX d bc bs mi pc L st n K R M (gm_Q2 O Q) := by
  cases i
  case iconst z => exact gm_sz (gm_p_const hat rfl) (hk _ _ _ _ _ _ _ _ _ hF h)
  case bipush z => exact gm_sz (gm_p_const hat rfl) (hk _ _ _ _ _ _ _ _ _ hF h)
  case sipush z => exact gm_sz (gm_p_const hat rfl) (hk _ _ _ _ _ _ _ _ _ hF h)
  case lconst z => exact gm_sz (gm_p_const hat rfl) (hk _ _ _ _ _ _ _ _ _ hF h)
  case aconst_null => exact gm_sz (gm_p_const hat rfl) (hk _ _ _ _ _ _ _ _ _ hF h)
  case iload j =>
    obtain ⟨v, h1, h2, h3⟩ := gm_ld_of h
    exact gm_sz (gm_p_load hat rfl h1 h2) (hk _ _ _ _ _ _ _ _ _ hF h3)
  case iload_n j =>
    obtain ⟨v, h1, h2, h3⟩ := gm_ld_of h
    exact gm_sz (gm_p_load hat rfl h1 h2) (hk _ _ _ _ _ _ _ _ _ hF h3)
  case lload j =>
    obtain ⟨v, h1, h2, h3⟩ := gm_ld_of h
    exact gm_sz (gm_p_load hat rfl h1 h2) (hk _ _ _ _ _ _ _ _ _ hF h3)
  case lload_n j =>
    obtain ⟨v, h1, h2, h3⟩ := gm_ld_of h
    exact gm_sz (gm_p_load hat rfl h1 h2) (hk _ _ _ _ _ _ _ _ _ hF h3)
  case aload j =>
    obtain ⟨v, h1, h2, h3⟩ := gm_ld_of h
    exact gm_sz (gm_p_load hat rfl h1 h2) (hk _ _ _ _ _ _ _ _ _ hF h3)
  case aload_n j =>
    obtain ⟨v, h1, h2, h3⟩ := gm_ld_of h
    exact gm_sz (gm_p_load hat rfl h1 h2) (hk _ _ _ _ _ _ _ _ _ hF h3)
  case istore j =>
    obtain ⟨v, st, rfl, h1, h2, h3⟩ := gm_sto_of h
    exact gm_sz (gm_p_stor hat rfl h2 h1) (hk _ _ _ _ _ _ _ _ _ hF h3)
  case istore_n j =>
    obtain ⟨v, st, rfl, h1, h2, h3⟩ := gm_sto_of h
    exact gm_sz (gm_p_stor hat rfl h2 h1) (hk _ _ _ _ _ _ _ _ _ hF h3)
  case lstore j =>
    obtain ⟨v, st, rfl, h1, h2, h3⟩ := gm_sto_of h
    exact gm_sz (gm_p_stor hat rfl h2 h1) (hk _ _ _ _ _ _ _ _ _ hF h3)
  case lstore_n j =>
    obtain ⟨v, st, rfl, h1, h2, h3⟩ := gm_sto_of h
    exact gm_sz (gm_p_stor hat rfl h2 h1) (hk _ _ _ _ _ _ _ _ _ hF h3)
  case astore j =>
    obtain ⟨v, st, rfl, h1, h2, h3⟩ := gm_sto_of h
    exact gm_sz (gm_p_stor hat rfl h2 h1) (hk _ _ _ _ _ _ _ _ _ hF h3)
  case astore_n j =>
    obtain ⟨v, st, rfl, h1, h2, h3⟩ := gm_sto_of h
    exact gm_sz (gm_p_stor hat rfl h2 h1) (hk _ _ _ _ _ _ _ _ _ hF h3)
  case iadd =>
    obtain ⟨x, y, st, rfl, h1⟩ := gm_two2_of h
    exact gm_sz (gm_p_bin hat rfl) (hk _ _ _ _ _ _ _ _ _ hF h1)
  case isub =>
    obtain ⟨x, y, st, rfl, h1⟩ := gm_two2_of h
    exact gm_sz (gm_p_bin hat rfl) (hk _ _ _ _ _ _ _ _ _ hF h1)
  case imul =>
    obtain ⟨x, y, st, rfl, h1⟩ := gm_two2_of h
    exact gm_sz (gm_p_bin hat rfl) (hk _ _ _ _ _ _ _ _ _ hF h1)
  case iand =>
    obtain ⟨x, y, st, rfl, h1⟩ := gm_two2_of h
    exact gm_sz (gm_p_bin hat rfl) (hk _ _ _ _ _ _ _ _ _ hF h1)
  case ior =>
    obtain ⟨x, y, st, rfl, h1⟩ := gm_two2_of h
    exact gm_sz (gm_p_bin hat rfl) (hk _ _ _ _ _ _ _ _ _ hF h1)
  case ixor =>
    obtain ⟨x, y, st, rfl, h1⟩ := gm_two2_of h
    exact gm_sz (gm_p_bin hat rfl) (hk _ _ _ _ _ _ _ _ _ hF h1)
  case ishl =>
    obtain ⟨x, y, st, rfl, h1⟩ := gm_two2_of h
    exact gm_sz (gm_p_bin hat rfl) (hk _ _ _ _ _ _ _ _ _ hF h1)
  case ishr =>
    obtain ⟨x, y, st, rfl, h1⟩ := gm_two2_of h
    exact gm_sz (gm_p_bin hat rfl) (hk _ _ _ _ _ _ _ _ _ hF h1)
  case iushr =>
    obtain ⟨x, y, st, rfl, h1⟩ := gm_two2_of h
    exact gm_sz (gm_p_bin hat rfl) (hk _ _ _ _ _ _ _ _ _ hF h1)
  case ineg =>
    obtain ⟨x, st, rfl, h1⟩ := gm_one_of h
    exact gm_sz (gm_p_un hat rfl) (hk _ _ _ _ _ _ _ _ _ hF h1)
  case i2b =>
    obtain ⟨x, st, rfl, h1⟩ := gm_one_of h
    exact gm_sz (gm_p_un hat rfl) (hk _ _ _ _ _ _ _ _ _ hF h1)
  case land =>
    obtain ⟨x, y, st, rfl, h1⟩ := gm_twl_of h
    exact gm_sz (gm_p_lbin hat rfl) (hk _ _ _ _ _ _ _ _ _ hF h1)
  case lor =>
    obtain ⟨x, y, st, rfl, h1⟩ := gm_twl_of h
    exact gm_sz (gm_p_lbin hat rfl) (hk _ _ _ _ _ _ _ _ _ hF h1)
  case lxor =>
    obtain ⟨x, y, st, rfl, h1⟩ := gm_twl_of h
    exact gm_sz (gm_p_lbin hat rfl) (hk _ _ _ _ _ _ _ _ _ hF h1)
  case lshl =>
    obtain ⟨x, y, st, rfl, h1⟩ := gm_lin_of h
    exact gm_sz (gm_p_lsh hat rfl) (hk _ _ _ _ _ _ _ _ _ hF h1)
  case lushr =>
    obtain ⟨x, y, st, rfl, h1⟩ := gm_lin_of h
    exact gm_sz (gm_p_lsh hat rfl) (hk _ _ _ _ _ _ _ _ _ hF h1)
  all_goals exact absurd hi (by intro h9; rcases h9 with h9 | h9 | h9 | h9 | h9 | h9 | h9 <;> cases h9)
theorem gm_wi_div (hat : gm_at mi pc = some .idiv) (hF : gm_Fx O n K R M) (hk : gm_On O X LX d mi Q k) (h : gm_wi O X LX P E mi Q d bc bs pc L st n K R M k .idiv) : gm_Wp X LX d bc bs mi pc L st n K R M (gm_Q2 O Q) := by
  obtain ⟨x, y, st, rfl, ⟨h1, h2, h3⟩, h4⟩ := gm_two2_of h
  have e : gm_div x y = Int.tdiv x y := by unfold gm_div; rw [gm_ir_w h1, gm_ir_w h2]
  exact gm_sz (gm_p_div hat (by rw [gm_ir_w h2]; exact h3)) (hk _ _ _ _ _ _ _ _ _ hF (by rw [e]; exact h4))
theorem gm_wi_rem (hat : gm_at mi pc = some .irem) (hF : gm_Fx O n K R M) (hk : gm_On O X LX d mi Q k) (h : gm_wi O X LX P E mi Q d bc bs pc L st n K R M k .irem) : gm_Wp X LX d bc bs mi pc L st n K R M (gm_Q2 O Q) := by
  obtain ⟨x, y, st, rfl, ⟨h1, h2, h3⟩, h4⟩ := gm_two2_of h
  have e : gm_rem x y = Int.tmod x y := by unfold gm_rem; rw [gm_ir_w h1, gm_ir_w h2]
  exact gm_sz (gm_p_rem hat (by rw [gm_ir_w h2]; exact h3)) (hk _ _ _ _ _ _ _ _ _ hF (by rw [e]; exact h4))
theorem gm_wi_i2l (hat : gm_at mi pc = some .i2l) (hF : gm_Fx O n K R M) (hk : gm_On O X LX d mi Q k) (h : gm_wi O X LX P E mi Q d bc bs pc L st n K R M k .i2l) : gm_Wp X LX d bc bs mi pc L st n K R M (gm_Q2 O Q) := by
  obtain ⟨x, st, rfl, h1, h2⟩ := gm_one_of h
  exact gm_sz (gm_p_i2l hat) (hk _ _ _ _ _ _ _ _ _ hF (by rw [gm_ir_w h1]; exact h2))
theorem gm_wi_l2i (hat : gm_at mi pc = some .l2i) (hF : gm_Fx O n K R M) (hk : gm_On O X LX d mi Q k) (h : gm_wi O X LX P E mi Q d bc bs pc L st n K R M k .l2i) : gm_Wp X LX d bc bs mi pc L st n K R M (gm_Q2 O Q) := by
  rcases st with _ | ⟨x | x | x | x, st⟩
  case cons.inr.inl => exact gm_sz (gm_p_l2i hat) (hk _ _ _ _ _ _ _ _ _ hF h)
  all_goals exact h.elim
theorem gm_wi_lcmp (hat : gm_at mi pc = some .lcmp) (hF : gm_Fx O n K R M) (hk : gm_On O X LX d mi Q k) (h : gm_wi O X LX P E mi Q d bc bs pc L st n K R M k .lcmp) : gm_Wp X LX d bc bs mi pc L st n K R M (gm_Q2 O Q) := by
  obtain ⟨x, y, st, rfl, h1⟩ := gm_twl_of h
  exact gm_sz (gm_p_lcmp hat) (hk _ _ _ _ _ _ _ _ _ hF h1)
theorem gm_wi_dup (hat : gm_at mi pc = some .dup) (hF : gm_Fx O n K R M) (hk : gm_On O X LX d mi Q k) (h : gm_wi O X LX P E mi Q d bc bs pc L st n K R M k .dup) : gm_Wp X LX d bc bs mi pc L st n K R M (gm_Q2 O Q) := by
  rcases st with _ | ⟨v, st⟩
  · exact h.elim
  · unfold gm_wi at h
    dsimp only at h
    by_cases e : gm_sort v = 1
    · rw [if_pos e] at h; exact h.elim
    · rw [if_neg e] at h; exact gm_sz (gm_p_dup hat e) (hk _ _ _ _ _ _ _ _ _ hF h)
theorem gm_wi_pop (hat : gm_at mi pc = some .pop) (hF : gm_Fx O n K R M) (hk : gm_On O X LX d mi Q k) (h : gm_wi O X LX P E mi Q d bc bs pc L st n K R M k .pop) : gm_Wp X LX d bc bs mi pc L st n K R M (gm_Q2 O Q) := by
  rcases st with _ | ⟨v, st⟩
  · exact h.elim
  · unfold gm_wi at h
    dsimp only at h
    by_cases e : gm_sort v = 1
    · rw [if_pos e] at h; exact h.elim
    · rw [if_neg e] at h; exact gm_sz (gm_p_pop hat e) (hk _ _ _ _ _ _ _ _ _ hF h)
theorem gm_wi_dup2 (hat : gm_at mi pc = some .dup2) (hF : gm_Fx O n K R M) (hk : gm_On O X LX d mi Q k) (h : gm_wi O X LX P E mi Q d bc bs pc L st n K R M k .dup2) : gm_Wp X LX d bc bs mi pc L st n K R M (gm_Q2 O Q) := by
  rcases st with _ | ⟨v, _ | ⟨u, st⟩⟩
  · exact h.elim
  · exact h.elim
  · unfold gm_wi at h
    dsimp only at h
    by_cases e : gm_sort v = 1 ∨ gm_sort u = 1
    · rw [if_pos e] at h; exact h.elim
    · rw [if_neg e] at h; exact gm_sz (gm_p_dup2 hat (fun h9 => e (Or.inl h9)) (fun h9 => e (Or.inr h9))) (hk _ _ _ _ _ _ _ _ _ hF h)
theorem gm_wi_iinc {j : Nat} {z : Int} (hat : gm_at mi pc = some (.iinc j z)) (hF : gm_Fx O n K R M) (hk : gm_On O X LX d mi Q k) (h : gm_wi O X LX P E mi Q d bc bs pc L st n K R M k (.iinc j z)) : gm_Wp X LX d bc bs mi pc L st n K R M (gm_Q2 O Q) := by
  unfold gm_wi at h
  dsimp only at h
  split at h
  · rename_i x e
    exact gm_sz (gm_p_iinc hat e) (hk _ _ _ _ _ _ _ _ _ hF h)
  · exact h.elim
theorem gm_wi_goto {off : Int} (hat : gm_at mi pc = some (.goto off)) (hF : gm_Fx O n K R M) (hk : gm_On O X LX d mi Q k) (h : gm_wi O X LX P E mi Q d bc bs pc L st n K R M k (.goto off)) : gm_Wp X LX d bc bs mi pc L st n K R M (gm_Q2 O Q) := by
  unfold gm_wi at h
  dsimp only at h
  split at h
  · rename_i e
    exact gm_sz (gm_p_goto hat e) (hk _ _ _ _ _ _ _ _ _ hF h)
  · exact h.elim
theorem gm_wi_if {cc : ClassFile.Cond} {off : Int} (hat : gm_at mi pc = some (.ifCond cc off)) (hF : gm_Fx O n K R M) (hk : gm_On O X LX d mi Q k) (h : gm_wi O X LX P E mi Q d bc bs pc L st n K R M k (.ifCond cc off)) : gm_Wp X LX d bc bs mi pc L st n K R M (gm_Q2 O Q) := by
  obtain ⟨x, st, rfl, g⟩ := gm_one_of h
  split at g
  · rename_i e
    obtain ⟨h1, h2, h3⟩ := g
    have e1 : gm_cmp cc x 0 = gm_cm cc x 0 := gm_cm_w h1 ⟨by omega, by omega⟩
    exact gm_b_if hat e (fun q => hk _ _ _ _ _ _ _ _ _ hF (h2 (by rw [← e1]; exact q))) (fun q => hk _ _ _ _ _ _ _ _ _ hF (h3 (by rw [← e1]; exact q)))
  · exact g.elim
theorem gm_wi_ic {cc : ClassFile.Cond} {off : Int} (hat : gm_at mi pc = some (.if_icmp cc off)) (hF : gm_Fx O n K R M) (hk : gm_On O X LX d mi Q k) (h : gm_wi O X LX P E mi Q d bc bs pc L st n K R M k (.if_icmp cc off)) : gm_Wp X LX d bc bs mi pc L st n K R M (gm_Q2 O Q) := by
  obtain ⟨x, y, st, rfl, g⟩ := gm_two2_of h
  split at g
  · rename_i e
    obtain ⟨⟨h1, h9⟩, h2, h3⟩ := g
    have e1 : gm_cmp cc x y = gm_cm cc x y := gm_cm_w h1 h9
    exact gm_b_ic hat e (fun q => hk _ _ _ _ _ _ _ _ _ hF (h2 (by rw [← e1]; exact q))) (fun q => hk _ _ _ _ _ _ _ _ _ hF (h3 (by rw [← e1]; exact q)))
  · exact g.elim
theorem gm_wi_nul {off : Int} (hat : gm_at mi pc = some (.ifnull off)) (hF : gm_Fx O n K R M) (hk : gm_On O X LX d mi Q k) (h : gm_wi O X LX P E mi Q d bc bs pc L st n K R M k (.ifnull off)) : gm_Wp X LX d bc bs mi pc L st n K R M (gm_Q2 O Q) := by
  rcases st with _ | ⟨x | x | x | x, st⟩
  case cons.inr.inr.inl =>
    unfold gm_wi at h
    dsimp only at h
    split at h
    · rename_i e
      exact gm_b_nul hat e (fun q => hk _ _ _ _ _ _ _ _ _ hF (h.1 q)) (fun q => hk _ _ _ _ _ _ _ _ _ hF (h.2 q))
    · exact h.elim
  all_goals exact h.elim
theorem gm_wi_nnul {off : Int} (hat : gm_at mi pc = some (.ifnonnull off)) (hF : gm_Fx O n K R M) (hk : gm_On O X LX d mi Q k) (h : gm_wi O X LX P E mi Q d bc bs pc L st n K R M k (.ifnonnull off)) : gm_Wp X LX d bc bs mi pc L st n K R M (gm_Q2 O Q) := by
  rcases st with _ | ⟨x | x | x | x, st⟩
  case cons.inr.inr.inl =>
    unfold gm_wi at h
    dsimp only at h
    split at h
    · rename_i e
      exact gm_b_nnul hat e (fun q => hk _ _ _ _ _ _ _ _ _ hF (h.1 q)) (fun q => hk _ _ _ _ _ _ _ _ _ hF (h.2 q))
    · exact h.elim
  all_goals exact h.elim
theorem gm_wi_sw {df lo hi : Int} {offs : Array Int} (hat : gm_at mi pc = some (.tableswitch df lo hi offs)) (hF : gm_Fx O n K R M) (hk : gm_On O X LX d mi Q k) (h : gm_wi O X LX P E mi Q d bc bs pc L st n K R M k (.tableswitch df lo hi offs)) : gm_Wp X LX d bc bs mi pc L st n K R M (gm_Q2 O Q) := by
  obtain ⟨x, st, rfl, g⟩ := gm_one_of h
  split at g
  · rename_i e
    obtain ⟨h1, h2, h3⟩ := g
    have e1 := gm_ir_w h1
    refine gm_b_sw hat e.1 ⟨e.2.1, fun o ho => of_decide_eq_true (List.all_eq_true.mp e.2.2 o ho)⟩ (fun q => hk _ _ _ _ _ _ _ _ _ hF (h2 (by rw [e1] at q; exact q))) (gm_swx_t e1 (fun q hq => hk _ _ _ _ _ _ _ _ _ hF hq) _ _ h3)
  · exact g.elim
end GI
