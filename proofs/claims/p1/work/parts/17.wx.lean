/-! CALLS; any instruction; a stretch of code. -/
section GX
variable {O : gm_Or} {X : Int → Int} {LX d bc bs mi pc : Nat} {L : gm_L} {st : List gm_V} {n : Nat} {K : gm_K} {R : gm_R} {M : gm_M} {Q Q' : gm_Q} {P : List (Nat × gm_Pu)} {E : List (Nat × gm_Sc)}
variable {k : Nat → Nat → Nat → gm_L → List gm_V → Nat → gm_K → gm_R → gm_M → Prop}
theorem gm_wi_stat {ix : Nat} (hh : gm_hh mi = []) (hE : gm_OkE O X LX E) (hP : gm_OkP O X LX P) (hat : gm_at mi pc = some (.invokestatic ix)) (hF : gm_Fx O n K R M) (hk : gm_On O X LX d mi Q k) (h : gm_wi O X LX P E mi Q d bc bs pc L st n K R M k (.invokestatic ix)) : gm_Wp X LX d bc bs mi pc L st n K R M (gm_Q2 O Q) := by
  unfold gm_wi at h
  dsimp only at h
  cases hc : gm_cal (gm_ow mi) ix with
  | none => rw [hc] at h; exact h.elim
  | some q =>
    rw [hc] at h
    obtain ⟨kd, mj⟩ := q
    dsimp only at h
    split at h
    · rename_i e
      obtain ⟨rfl, hd⟩ := e
      split at h
      · rename_i e1
        subst e1
        obtain ⟨x, y, st, rfl, g⟩ := gm_two2_of h
        split at g
        · rename_i e2
          exact gm_sz (gm_p_max hat hc (gm_ir_w g.1.1) (gm_ir_w g.1.2) e2 hd) (hk _ _ _ _ _ _ _ _ _ hF g.2)
        · exact g.elim
      · split at h
        · rename_i e1
          subst e1
          obtain ⟨x, y, st, rfl, g⟩ := gm_two2_of h
          split at g
          · rename_i e2
            exact gm_sz (gm_p_min hat hc (gm_ir_w g.1.1) (gm_ir_w g.1.2) e2 hd) (hk _ _ _ _ _ _ _ _ _ hF g.2)
          · exact g.elim
        · split at h
          · rename_i e
            obtain ⟨e1, e2, e3, e4, e5⟩ := e
            refine gm_wc_s (pc' := pc + 3) hE hP hF (fun d' bc' bs' h1 h2 h3 h4 => ?_) (fun bc bs st n K R M hf hq => hk _ _ _ _ _ _ _ _ _ hf hq) h
            have := gm_c_stat (bc := bc) (bs := bs) hat hc e1 hh (as := (st.take (gm_na mj)).reverse) (st := st.drop (gm_na mj)) (by rw [List.length_reverse]; exact e2) (gm_alls_of e3) (by rw [List.length_reverse, e2]; exact e4) e5 h1 h2 h3 h4
            rw [List.reverse_reverse, List.take_append_drop] at this
            exact this
          · exact h.elim
    · exact h.elim
theorem gm_wi_virt {ix : Nat} (hh : gm_hh mi = []) (hE : gm_OkE O X LX E) (hP : gm_OkP O X LX P) (hat : gm_at mi pc = some (.invokevirtual ix)) (hF : gm_Fx O n K R M) (hk : gm_On O X LX d mi Q k) (h : gm_wi O X LX P E mi Q d bc bs pc L st n K R M k (.invokevirtual ix)) : gm_Wp X LX d bc bs mi pc L st n K R M (gm_Q2 O Q) := by
  unfold gm_wi at h
  dsimp only at h
  cases hc : gm_cal (gm_ow mi) ix with
  | none => rw [hc] at h; exact h.elim
  | some q =>
    rw [hc] at h
    obtain ⟨kd, mj⟩ := q
    dsimp only at h
    split at h
    · rename_i e
      obtain ⟨rfl, e1, e2, e3, e4, e5⟩ := e
      cases hs : st.drop (gm_na mj) with
      | nil => rw [hs] at h; exact h.elim
      | cons v st' =>
        rw [hs] at h
        rcases v with x | x | x | x
        case inr.inr.inl =>
          dsimp only at h
          split at h
          · rename_i e6
            obtain ⟨h1, h2, h3⟩ := gm_isK_of hF h
            refine gm_wc_s (pc' := pc + 3) hE hP hF (fun d' bc' bs' a1 a2 a3 a4 => ?_) (fun bc bs st n K R M hf hq => hk _ _ _ _ _ _ _ _ _ hf hq) h3
            have hmj := (gm_cal_spec hc).1
            have := gm_c_virt (bc := bc) (bs := bs) hat hc e1 hh (as := (st.take (gm_na mj)).reverse) (st := st') h1 h2 e2 (gm_cio_spec hmj e2) (by rw [List.length_reverse]; exact e3) (gm_alls_of e4) (by rw [List.length_reverse, e3]; exact e5) e6 a1 a2 a3 a4
            rw [List.reverse_reverse, ← hs, List.take_append_drop] at this
            exact this
          · exact h.elim
        all_goals exact h.elim
    · exact h.elim
theorem gm_wi_spec {ix : Nat} (hh : gm_hh mi = []) (hE : gm_OkE O X LX E) (hP : gm_OkP O X LX P) (hat : gm_at mi pc = some (.invokespecial ix)) (hF : gm_Fx O n K R M) (hk : gm_On O X LX d mi Q k) (h : gm_wi O X LX P E mi Q d bc bs pc L st n K R M k (.invokespecial ix)) : gm_Wp X LX d bc bs mi pc L st n K R M (gm_Q2 O Q) := by
  unfold gm_wi at h
  dsimp only at h
  split at h
  · rename_i ho
    rcases st with _ | ⟨x | x | x | x, st⟩
    case cons.inr.inr.inl =>
      dsimp only at h
      split at h
      · rename_i e
        exact gm_sz (gm_p_oinit hat ho h.1 e.1 e.2) (hk _ _ _ _ _ _ _ _ _ hF h.2)
      · exact h.elim
    all_goals exact h.elim
  · cases hc : gm_cal (gm_ow mi) ix with
    | none => rw [hc] at h; exact h.elim
    | some q =>
      rw [hc] at h
      obtain ⟨kd, mj⟩ := q
      dsimp only at h
      split at h
      · rename_i e
        obtain ⟨e0, e1, e3, e4, e5⟩ := e
        cases hs : st.drop (gm_na mj) with
        | nil => rw [hs] at h; exact h.elim
        | cons v st' =>
          rw [hs] at h
          rcases v with x | x | x | x
          case inr.inr.inl =>
            dsimp only at h
            split at h
            · rename_i e6
              obtain ⟨h1, h3⟩ := h
              refine gm_wc_s (pc' := pc + 3) hE hP hF (fun d' bc' bs' a1 a2 a3 a4 => ?_) (fun bc bs st n K R M hf hq => hk _ _ _ _ _ _ _ _ _ hf hq) h3
              have := gm_c_init (bc := bc) (bs := bs) hat hc e0 e1 hh (as := (st.take (gm_na mj)).reverse) (st := st') h1 (by rw [List.length_reverse]; exact e3) (gm_alls_of e4) (by rw [List.length_reverse, e3]; exact e5) e6 a1 a2 a3 a4
              rw [List.reverse_reverse, ← hs, List.take_append_drop] at this
              exact this
            · exact h.elim
          all_goals exact h.elim
      · exact h.elim
/-- ANY INSTRUCTION -/
theorem gm_wi_s {i : Instr} (hh : gm_hh mi = []) (hE : gm_OkE O X LX E) (hP : gm_OkP O X LX P) (hat : gm_at mi pc = some i) (hF : gm_Fx O n K R M) (hk : gm_On O X LX d mi Q k) (h : gm_wi O X LX P E mi Q d bc bs pc L st n K R M k i) : gm_Wp X LX d bc bs mi pc L st n K R M (gm_Q2 O Q) := by
  by_cases hi : ((gm_const i).isSome = true ∨ (gm_load i).isSome = true ∨ (gm_stor i).isSome = true ∨ (gm_bin i).isSome = true ∨ (gm_un i).isSome = true ∨ (gm_lbin i).isSome = true ∨ (gm_lsh i).isSome = true)
  · exact gm_wi_a hi hat hF hk h
  · cases i
    case idiv => exact gm_wi_div hat hF hk h
    case irem => exact gm_wi_rem hat hF hk h
    case i2l => exact gm_wi_i2l hat hF hk h
    case l2i => exact gm_wi_l2i hat hF hk h
    case lcmp => exact gm_wi_lcmp hat hF hk h
    case dup => exact gm_wi_dup hat hF hk h
    case pop => exact gm_wi_pop hat hF hk h
    case dup2 => exact gm_wi_dup2 hat hF hk h
    case iinc => exact gm_wi_iinc hat hF hk h
    case goto => exact gm_wi_goto hat hF hk h
    case ifCond => exact gm_wi_if hat hF hk h
    case if_icmp => exact gm_wi_ic hat hF hk h
    case ifnull => exact gm_wi_nul hat hF hk h
    case ifnonnull => exact gm_wi_nnul hat hF hk h
    case tableswitch => exact gm_wi_sw hat hF hk h
    case getfield => exact gm_wi_get hat hF hk h
    case putfield => exact gm_wi_put hat hF hk h
    case iaload => exact gm_wi_iald hat hF hk h
    case baload => exact gm_wi_bald hat hF hk h
    case laload => exact gm_wi_lald hat hF hk h
    case aaload => exact gm_wi_aald hat hF hk h
    case iastore => exact gm_wi_iast hat hF hk h
    case bastore => exact gm_wi_bast hat hF hk h
    case lastore => exact gm_wi_last hat hF hk h
    case arraylength => exact gm_wi_alen hat hF hk h
    case new => exact gm_wi_new hh hat hF hk h
    case newarray => exact gm_wi_newa hat hF hk h
    case anewarray => exact gm_wi_anew hat hF hk h
    case aastore => exact gm_wi_aast hat hF hk h
    case ldc => exact gm_wi_ldc (Or.inl rfl) hat hF hk h
    case ldc_w => exact gm_wi_ldc (Or.inr rfl) hat hF hk h
    case ldc2_w => exact gm_wi_ldcl hat hF hk h
    case invokestatic => exact gm_wi_stat hh hE hP hat hF hk h
    case invokevirtual => exact gm_wi_virt hh hE hP hat hF hk h
    case invokespecial => exact gm_wi_spec hh hE hP hat hF hk h
    case ireturn => exact gm_wi_iret hat hF h
    case return_ => exact gm_wi_vret hat hF h
    case areturn => exact gm_wi_aret hat hF h
    all_goals first | exact False.elim h | exact absurd (Or.inl rfl) hi | exact absurd (Or.inr (Or.inl rfl)) hi | exact absurd (Or.inr (Or.inr (Or.inl rfl))) hi | exact absurd (Or.inr (Or.inr (Or.inr (Or.inl rfl)))) hi | exact absurd (Or.inr (Or.inr (Or.inr (Or.inr (Or.inl rfl))))) hi | exact absurd (Or.inr (Or.inr (Or.inr (Or.inr (Or.inr (Or.inl rfl)))))) hi | exact absurd (Or.inr (Or.inr (Or.inr (Or.inr (Or.inr (Or.inr rfl)))))) hi
/-- A STRETCH -/
theorem gm_wx_s {cuts : List (Nat × List Bool)} (hh : gm_hh mi = []) (hE : gm_OkE O X LX E) (hP : gm_OkP O X LX P) : ∀ (f : Nat) (fst : Bool) (bc bs pc : Nat) (L : gm_L) (st : List gm_V) (n : Nat) (K : gm_K) (R : gm_R) (M : gm_M), gm_Fx O n K R M → gm_wx O X LX P E mi cuts Q d f fst bc bs pc L st n K R M → gm_Wp X LX d bc bs mi pc L st n K R M (gm_Q2 O Q) := by
  intro f
  induction f with
  | zero => intro fst bc bs pc L st n K R M _ h; exact h.elim
  | succ f ih =>
    intro fst bc bs pc L st n K R M hF h
    unfold gm_wx at h
    split at h
    · rename_i mask e
      split at h
      · exact gm_Wp_mask (h hF)
      · exact h.elim
    · split at h
      · rename_i i hat
        exact gm_wi_s hh hE hP hat hF (fun bc bs pc L st n K R M hf hq => ih false bc bs pc L st n K R M hf hq) h
      · exact h.elim
end GX
