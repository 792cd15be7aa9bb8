/-! EACH INSTRUCTION, the heap's. -/
section GJ
variable {O : gm_Or} {X : Int → Int} {LX d bc bs mi pc : Nat} {L : gm_L} {st : List gm_V} {n : Nat} {K : gm_K} {R : gm_R} {M : gm_M} {Q Q' : gm_Q} {P : List (Nat × gm_Pu)} {E : List (Nat × gm_Sc)}
variable {k : Nat → Nat → Nat → gm_L → List gm_V → Nat → gm_K → gm_R → gm_M → Prop}
theorem gm_wi_get {ix : Nat} (hat : gm_at mi pc = some (.getfield ix)) (hF : gm_Fx O n K R M) (hk : gm_On O X LX d mi Q k) (h : gm_wi O X LX P E mi Q d bc bs pc L st n K R M k (.getfield ix)) : gm_Wp X LX d bc bs mi pc L st n K R M (gm_Q2 O Q) := by
  rcases st with _ | ⟨x | x | x | x, st⟩
  case cons.inr.inr.inl =>
    unfold gm_wi at h
    dsimp only at h
    obtain ⟨ci, j, h1, h2, h3, h4⟩ := gm_fat_of hF h
    rw [gm_gR_of hF, gm_gM_of hF] at h4
    exact gm_sz (gm_p_get hat h1 h2 h3) (hk _ _ _ _ _ _ _ _ _ hF h4)
  all_goals exact h.elim
theorem gm_wi_put {ix : Nat} (hat : gm_at mi pc = some (.putfield ix)) (hF : gm_Fx O n K R M) (hk : gm_On O X LX d mi Q k) (h : gm_wi O X LX P E mi Q d bc bs pc L st n K R M k (.putfield ix)) : gm_Wp X LX d bc bs mi pc L st n K R M (gm_Q2 O Q) := by
  rcases st with _ | ⟨x | x | x | x, _ | ⟨y | y | y | y, st⟩⟩
  case cons.inl.cons.inr.inr.inl =>
    unfold gm_wi at h
    dsimp only at h
    obtain ⟨ci, j, h1, h2, h3, h4⟩ := gm_fat_of hF h
    split at h4
    · rename_i e
      have hn : O.2.2 y j = none := by
        have := e.2
        cases hq : O.2.2 y j with
        | none => rfl
        | some v => rw [hq] at this; cases this
      split at h4
      · rename_i e0
        exact gm_sz (gm_p_puti hat h1 h2 h3 e.1 (Or.inl e0)) (hk _ _ _ _ _ _ _ _ _ (gm_Fx_M hF (Or.inl hn)) h4)
      · split at h4
        · rename_i e1
          exact gm_sz (gm_p_puti hat h1 h2 h3 e.1 (Or.inr ⟨e1, h4.1⟩)) (hk _ _ _ _ _ _ _ _ _ (gm_Fx_M hF (Or.inl hn)) h4.2)
        · exact h4.elim
    · exact h4.elim
  case cons.inr.inr.inl.cons.inr.inr.inl =>
    unfold gm_wi at h
    dsimp only at h
    obtain ⟨ci, j, h1, h2, h3, h4⟩ := gm_fat_of hF h
    split at h4
    · rename_i e
      have hn : O.2.1 y j = none := by
        have := e.2.1
        cases hq : O.2.1 y j with
        | none => rfl
        | some v => rw [hq] at this; cases this
      exact gm_sz (gm_p_putr hat h1 h2 h3 e.1 e.2.2) (hk _ _ _ _ _ _ _ _ _ (gm_Fx_R hF hn) h4)
    · exact h4.elim
  all_goals exact h.elim
theorem gm_wi_iald (hat : gm_at mi pc = some .iaload) (hF : gm_Fx O n K R M) (hk : gm_On O X LX d mi Q k) (h : gm_wi O X LX P E mi Q d bc bs pc L st n K R M k .iaload) : gm_Wp X LX d bc bs mi pc L st n K R M (gm_Q2 O Q) := by
  rcases st with _ | ⟨x | x | x | x, _ | ⟨y | y | y | y, st⟩⟩
  case cons.inl.cons.inr.inr.inl =>
    obtain ⟨h1, h2, h3, h4⟩ := gm_isK_of hF h
    obtain ⟨e1, e2⟩ := gm_ix hF h3
    exact gm_sz (gm_p_iald hat h1 h2 e2) (hk _ _ _ _ _ _ _ _ _ hF (by rw [e1]; exact h4))
  case cons.inl.cons.inr.inr.inr =>
    unfold gm_wi at h
    dsimp only at h
    split at h
    · rename_i e
      subst e
      obtain ⟨⟨h1, h2, h3⟩, h4⟩ := h
      exact gm_sz (gm_p_sald hat (by rw [gm_ir_w h3]; exact ⟨h1, h2⟩)) (hk _ _ _ _ _ _ _ _ _ hF (by rw [gm_ir_w h3]; exact h4))
    · exact h.elim
  all_goals exact h.elim
theorem gm_wi_bald (hat : gm_at mi pc = some .baload) (hF : gm_Fx O n K R M) (hk : gm_On O X LX d mi Q k) (h : gm_wi O X LX P E mi Q d bc bs pc L st n K R M k .baload) : gm_Wp X LX d bc bs mi pc L st n K R M (gm_Q2 O Q) := by
  rcases st with _ | ⟨x | x | x | x, _ | ⟨y | y | y | y, st⟩⟩
  case cons.inl.cons.inr.inr.inl =>
    obtain ⟨h1, h2, h3, h4⟩ := gm_isK_of hF h
    obtain ⟨e1, e2⟩ := gm_ix hF h3
    exact gm_sz (gm_p_bald hat h1 h2 e2) (hk _ _ _ _ _ _ _ _ _ hF (by rw [e1]; exact h4))
  all_goals exact h.elim
theorem gm_wi_lald (hat : gm_at mi pc = some .laload) (hF : gm_Fx O n K R M) (hk : gm_On O X LX d mi Q k) (h : gm_wi O X LX P E mi Q d bc bs pc L st n K R M k .laload) : gm_Wp X LX d bc bs mi pc L st n K R M (gm_Q2 O Q) := by
  rcases st with _ | ⟨x | x | x | x, _ | ⟨y | y | y | y, st⟩⟩
  case cons.inl.cons.inr.inr.inl =>
    obtain ⟨h1, h2, h3, h4⟩ := gm_isK_of hF h
    obtain ⟨e1, e2⟩ := gm_ix hF h3
    exact gm_sz (gm_p_lald hat h1 h2 e2) (hk _ _ _ _ _ _ _ _ _ hF (by rw [e1]; exact h4))
  all_goals exact h.elim
theorem gm_wi_aald (hat : gm_at mi pc = some .aaload) (hF : gm_Fx O n K R M) (hk : gm_On O X LX d mi Q k) (h : gm_wi O X LX P E mi Q d bc bs pc L st n K R M k .aaload) : gm_Wp X LX d bc bs mi pc L st n K R M (gm_Q2 O Q) := by
  rcases st with _ | ⟨x | x | x | x, _ | ⟨y | y | y | y, st⟩⟩
  case cons.inl.cons.inr.inr.inl =>
    obtain ⟨h1, h2, h3, h4⟩ := gm_isK_of hF h
    obtain ⟨e1, e2⟩ := gm_ix hF h3
    rw [gm_gR_of hF] at h4
    exact gm_sz (gm_p_aald hat h1 h2 e2) (hk _ _ _ _ _ _ _ _ _ hF (by rw [e1]; exact h4))
  all_goals exact h.elim
theorem gm_wi_iast (hat : gm_at mi pc = some .iastore) (hF : gm_Fx O n K R M) (hk : gm_On O X LX d mi Q k) (h : gm_wi O X LX P E mi Q d bc bs pc L st n K R M k .iastore) : gm_Wp X LX d bc bs mi pc L st n K R M (gm_Q2 O Q) := by
  rcases st with _ | ⟨x | x | x | x, _ | ⟨y | y | y | y, _ | ⟨z | z | z | z, st⟩⟩⟩
  case cons.inl.cons.inl.cons.inr.inr.inl =>
    obtain ⟨h1, h2, h3, h4⟩ := gm_isK_of hF h
    obtain ⟨e1, e2⟩ := gm_ix hF h3
    exact gm_sz (gm_p_iast hat h1 h2 e2) (hk _ _ _ _ _ _ _ _ _ (gm_Fx_M hF (Or.inr (by rw [h2]; omega))) (by rw [e1]; exact h4))
  all_goals exact h.elim
theorem gm_wi_bast (hat : gm_at mi pc = some .bastore) (hF : gm_Fx O n K R M) (hk : gm_On O X LX d mi Q k) (h : gm_wi O X LX P E mi Q d bc bs pc L st n K R M k .bastore) : gm_Wp X LX d bc bs mi pc L st n K R M (gm_Q2 O Q) := by
  rcases st with _ | ⟨x | x | x | x, _ | ⟨y | y | y | y, _ | ⟨z | z | z | z, st⟩⟩⟩
  case cons.inl.cons.inl.cons.inr.inr.inl =>
    obtain ⟨h1, h2, h3, h4⟩ := gm_isK_of hF h
    obtain ⟨e1, e2⟩ := gm_ix hF h3
    exact gm_sz (gm_p_bast hat h1 h2 e2) (hk _ _ _ _ _ _ _ _ _ (gm_Fx_M hF (Or.inr (by rw [h2]; omega))) (by rw [e1]; exact h4))
  all_goals exact h.elim
theorem gm_wi_last (hat : gm_at mi pc = some .lastore) (hF : gm_Fx O n K R M) (hk : gm_On O X LX d mi Q k) (h : gm_wi O X LX P E mi Q d bc bs pc L st n K R M k .lastore) : gm_Wp X LX d bc bs mi pc L st n K R M (gm_Q2 O Q) := by
  rcases st with _ | ⟨x | x | x | x, _ | ⟨y | y | y | y, _ | ⟨z | z | z | z, st⟩⟩⟩
  case cons.inr.inl.cons.inl.cons.inr.inr.inl =>
    obtain ⟨h1, h2, h3, h4⟩ := gm_isK_of hF h
    obtain ⟨e1, e2⟩ := gm_ix hF h3
    exact gm_sz (gm_p_last hat h1 h2 e2) (hk _ _ _ _ _ _ _ _ _ (gm_Fx_M hF (Or.inr (by rw [h2]; omega))) (by rw [e1]; exact h4))
  all_goals exact h.elim
theorem gm_wi_alen (hat : gm_at mi pc = some .arraylength) (hF : gm_Fx O n K R M) (hk : gm_On O X LX d mi Q k) (h : gm_wi O X LX P E mi Q d bc bs pc L st n K R M k .arraylength) : gm_Wp X LX d bc bs mi pc L st n K R M (gm_Q2 O Q) := by
  rcases st with _ | ⟨x | x | x | x, st⟩
  case cons.inr.inr.inl =>
    unfold gm_wi at h
    dsimp only at h
    cases hq : O.1 x with
    | none =>
      rw [hq] at h
      obtain ⟨⟨h1, h2, h3⟩, h4⟩ := h
      exact gm_sz (gm_p_alen hat ⟨h1, h2⟩ h3) (hk _ _ _ _ _ _ _ _ _ hF h4)
    | some q =>
      rw [hq] at h
      obtain ⟨h1, h2, h3⟩ := hF.1 x q hq
      dsimp only at h
      split at h
      · rename_i e
        exact gm_sz (gm_p_alen hat ⟨h1, h2⟩ (by rw [h3]; exact e)) (hk _ _ _ _ _ _ _ _ _ hF (by rw [h3]; exact h))
      · exact h.elim
  case cons.inr.inr.inr =>
    unfold gm_wi at h
    dsimp only at h
    split at h
    · rename_i e
      subst e
      exact gm_sz (gm_p_slen hat) (hk _ _ _ _ _ _ _ _ _ hF h)
    · exact h.elim
  all_goals exact h.elim
theorem gm_isx_of {ix x : Nat} (h : gm_isx mi pc ix = some x) : ∃ (ic is id : Nat) (lw : Bool), gm_xlk (gm_ow mi) ix = some (x, ic) ∧ gm_at mi (pc + 3) = some .dup ∧ gm_at mi (pc + 4) = some (if lw = true then .ldc_w is else .ldc is) ∧ gm_at mi (pc + (if lw = true then 7 else 6)) = some (.invokespecial ic) ∧ gm_at mi (pc + (if lw = true then 10 else 9)) = some .athrow ∧ gm_sld (gm_ow mi) is = some id := by
  unfold gm_isx at h
  split at h
  · rename_i q is e1 e2 e3
    obtain ⟨q1, q2⟩ := q
    split at h
    · rename_i e4
      cases h
      obtain ⟨id, hid⟩ := Option.isSome_iff_exists.mp e4.1
      exact ⟨q2, is, id, false, e1, e2, e3, e4.2.1, e4.2.2, hid⟩
    · cases h
  · rename_i q is e1 e2 e3
    obtain ⟨q1, q2⟩ := q
    split at h
    · rename_i e4
      cases h
      obtain ⟨id, hid⟩ := Option.isSome_iff_exists.mp e4.1
      exact ⟨q2, is, id, true, e1, e2, e3, e4.2.1, e4.2.2, hid⟩
    · cases h
  · cases h
theorem gm_wi_new {ix : Nat} (hh : gm_hh mi = []) (hat : gm_at mi pc = some (.new ix)) (hF : gm_Fx O n K R M) (hk : gm_On O X LX d mi Q k) (h : gm_wi O X LX P E mi Q d bc bs pc L st n K R M k (.new ix)) : gm_Wp X LX d bc bs mi pc L st n K R M (gm_Q2 O Q) := by
  unfold gm_wi at h
  dsimp only at h
  cases hn : gm_new (gm_ow mi) ix with
  | some ci =>
    rw [hn] at h
    obtain ⟨⟨h1, h2⟩, h3⟩ := h
    exact gm_sp (gm_p_new hat hn) h1 h2 (hk _ _ _ _ _ _ _ _ _ (gm_Fx_n hF) h3)
  | none =>
    rw [hn] at h
    dsimp only at h
    cases hx : gm_isx mi pc ix with
    | none => rw [hx] at h; exact h.elim
    | some x =>
      rw [hx] at h
      dsimp only at h
      split at h
      · rename_i e
        obtain ⟨⟨h1, h2⟩, h3⟩ := h
        obtain ⟨ic, is, id, lw, a1, a2, a3, a4, a5, a6⟩ := gm_isx_of hx
        exact gm_throw hh hat a1 a2 a3 a4 a5 a6 e.2 e.1 h1 h2 ⟨hF, h3⟩
      · exact h.elim
theorem gm_wi_newa {at0 : ArrayType} (hat : gm_at mi pc = some (.newarray at0)) (hF : gm_Fx O n K R M) (hk : gm_On O X LX d mi Q k) (h : gm_wi O X LX P E mi Q d bc bs pc L st n K R M k (.newarray at0)) : gm_Wp X LX d bc bs mi pc L st n K R M (gm_Q2 O Q) := by
  obtain ⟨x, st, rfl, g⟩ := gm_one_of h
  have go : ∀ kd : Nat, ((at0 = .int ∧ kd = 0) ∨ (at0 = .byte ∧ kd = 1) ∨ (at0 = .long ∧ kd = 2)) → ((0 ≤ x ∧ x < 60000000 ∧ 1 ≤ bc ∧ x.toNat ≤ bs) ∧ k (bc - 1) (bs - x.toNat) (pc + 2) L (gm_vr (n + 1) :: st) (n + 1) (gm_nK K n kd x.toNat) (gm_nR R n) (gm_nM M n)) → gm_Wp X LX d bc bs mi pc L (gm_vi x :: st) n K R M (gm_Q2 O Q) := by
    intro kd hkd g
    obtain ⟨⟨h1, h2, h3, h4⟩, h5⟩ := g
    have e : gm_w x = x := gm_w_id (by omega) (by omega)
    have := gm_p_newa (X := X) (LX := LX) (d := d) (L := L) (st := st) (n := n) (K := K) (R := R) (M := M) (e0 := x) hat hkd (by rw [e]; exact ⟨h1, h2⟩)
    rw [e] at this
    exact gm_sp this h3 h4 (hk _ _ _ _ _ _ _ _ _ (gm_Fx_n hF) h5)
  cases at0
  case int => exact go 0 (Or.inl ⟨rfl, rfl⟩) g
  case byte => exact go 1 (Or.inr (Or.inl ⟨rfl, rfl⟩)) g
  case long => exact go 2 (Or.inr (Or.inr ⟨rfl, rfl⟩)) g
  all_goals exact g.elim
theorem gm_cn1 : gm_cn 1 = "GlacierMail$State" := by decide +kernel
theorem gm_wi_anew {ix : Nat} (hat : gm_at mi pc = some (.anewarray ix)) (hF : gm_Fx O n K R M) (hk : gm_On O X LX d mi Q k) (h : gm_wi O X LX P E mi Q d bc bs pc L st n K R M k (.anewarray ix)) : gm_Wp X LX d bc bs mi pc L st n K R M (gm_Q2 O Q) := by
  obtain ⟨x, st, rfl, g⟩ := gm_one_of h
  split at g
  · rename_i hn
    obtain ⟨⟨h1, h2, h3, h4⟩, h5⟩ := g
    have e : gm_w x = x := gm_w_id (by omega) (by omega)
    have := gm_p_anew (X := X) (LX := LX) (d := d) (L := L) (st := st) (n := n) (K := K) (R := R) (M := M) (e0 := x) hat hn gm_cn1 (by rw [e]; exact ⟨h1, h2⟩)
    rw [e] at this
    exact gm_sp this h3 h4 (hk _ _ _ _ _ _ _ _ _ (gm_Fx_n hF) h5)
  · exact g.elim
theorem gm_wi_aast (hat : gm_at mi pc = some .aastore) (hF : gm_Fx O n K R M) (hk : gm_On O X LX d mi Q k) (h : gm_wi O X LX P E mi Q d bc bs pc L st n K R M k .aastore) : gm_Wp X LX d bc bs mi pc L st n K R M (gm_Q2 O Q) := by
  rcases st with _ | ⟨x | x | x | x, _ | ⟨y | y | y | y, _ | ⟨z | z | z | z, st⟩⟩⟩
  case cons.inr.inr.inl.cons.inl.cons.inr.inr.inl =>
    obtain ⟨h1, h2, g⟩ := gm_isK_of hF h
    obtain ⟨h5, h6, ⟨h7, h3⟩, h4⟩ := gm_isK_of hF g
    obtain ⟨e1, e2⟩ := gm_ix hF h3
    exact gm_sz (gm_p_aast hat h1 h2 e2 h5 h6 (by omega) gm_cn1) (hk _ _ _ _ _ _ _ _ _ (gm_Fx_R hF (by rw [e1]; exact h7)) (by rw [e1]; exact h4))
  all_goals exact h.elim
theorem gm_wi_ldc {i : Instr} {ix : Nat} (hi : i = .ldc ix ∨ i = .ldc_w ix) (hat : gm_at mi pc = some i) (hF : gm_Fx O n K R M) (hk : gm_On O X LX d mi Q k) (h : gm_wi O X LX P E mi Q d bc bs pc L st n K R M k i) : gm_Wp X LX d bc bs mi pc L st n K R M (gm_Q2 O Q) := by
  have go : (match gm_ild (gm_ow mi) ix with
    | some q => if q.2 = 0 then k bc bs (pc + gm_len i) L (gm_vi q.1 :: st) n K R M else False
    | none => match gm_sld (gm_ow mi) ix with
      | some id => k bc bs (pc + gm_len i) L (gm_vo id :: st) n K R M
      | none => False) → gm_Wp X LX d bc bs mi pc L st n K R M (gm_Q2 O Q) := by
    intro h
    cases h1 : gm_ild (gm_ow mi) ix with
    | some q =>
      rw [h1] at h
      obtain ⟨q1, q2⟩ := q
      dsimp only at h
      split at h
      · rename_i e
        subst e
        exact gm_sz (gm_p_ldci hat hi h1) (hk _ _ _ _ _ _ _ _ _ hF h)
      · exact h.elim
    | none =>
      rw [h1] at h
      dsimp only at h
      cases h2 : gm_sld (gm_ow mi) ix with
      | none => rw [h2] at h; exact h.elim
      | some id =>
        rw [h2] at h
        exact gm_sz (gm_p_ldcs hat hi h2) (hk _ _ _ _ _ _ _ _ _ hF h)
  rcases hi with rfl | rfl
  · exact go h
  · exact go h
theorem gm_wi_ldcl {ix : Nat} (hat : gm_at mi pc = some (.ldc2_w ix)) (hF : gm_Fx O n K R M) (hk : gm_On O X LX d mi Q k) (h : gm_wi O X LX P E mi Q d bc bs pc L st n K R M k (.ldc2_w ix)) : gm_Wp X LX d bc bs mi pc L st n K R M (gm_Q2 O Q) := by
  unfold gm_wi at h
  dsimp only at h
  cases h1 : gm_ild (gm_ow mi) ix with
  | none => rw [h1] at h; exact h.elim
  | some q =>
    rw [h1] at h
    obtain ⟨q1, q2⟩ := q
    dsimp only at h
    split at h
    · rename_i e
      subst e
      exact gm_sz (gm_p_ldcl hat h1) (hk _ _ _ _ _ _ _ _ _ hF h)
    · exact h.elim
theorem gm_wi_iret (hat : gm_at mi pc = some .ireturn) (hF : gm_Fx O n K R M) (h : gm_wi O X LX P E mi Q d bc bs pc L st n K R M k .ireturn) : gm_Wp X LX d bc bs mi pc L st n K R M (gm_Q2 O Q) := by
  rcases st with _ | ⟨x | x | x | x, _ | ⟨y, st⟩⟩
  case cons.inl.nil =>
    unfold gm_wi at h
    dsimp only at h
    split at h
    · rename_i e; exact gm_r_int hat (Or.inl e) ⟨hF, h⟩
    · rename_i e; exact gm_r_int hat (Or.inr ⟨e, h.1⟩) ⟨hF, h.2⟩
    · exact h.elim
  all_goals exact h.elim
theorem gm_wi_vret (hat : gm_at mi pc = some .return_) (hF : gm_Fx O n K R M) (h : gm_wi O X LX P E mi Q d bc bs pc L st n K R M k .return_) : gm_Wp X LX d bc bs mi pc L st n K R M (gm_Q2 O Q) := by
  unfold gm_wi at h
  dsimp only at h
  split at h
  · rename_i e; exact gm_r_void hat e ⟨hF, h⟩
  · exact h.elim
theorem gm_wi_aret (hat : gm_at mi pc = some .areturn) (hF : gm_Fx O n K R M) (h : gm_wi O X LX P E mi Q d bc bs pc L st n K R M k .areturn) : gm_Wp X LX d bc bs mi pc L st n K R M (gm_Q2 O Q) := by
  unfold gm_wi at h
  dsimp only at h
  split at h
  · rename_i e; exact gm_r_ref hat (Or.inl ⟨_, e⟩) ⟨hF, h⟩
  · rename_i e; exact gm_r_ref hat (Or.inr ⟨_, e⟩) ⟨hF, h⟩
  · exact h.elim
end GJ
