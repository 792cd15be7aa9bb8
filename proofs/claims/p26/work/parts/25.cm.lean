/-! 25.cm -/
section
/-! THE CHECKER: heap, calls and ends. -/
section CM
variable {O : gm_Or} {X : Int → Int} {LX : Nat} {lx : Option Nat} {XF : List (Int × Int × ck_I)} {E : List (Nat × List ck_Sum)} {mi d n0 : Nat} {W : List (Nat × Int × Int) × List (Nat × Int)} {outs : List ck_Oc} {bc bs pc : Nat} {L : gm_L} {st : List gm_V} {n : Nat} {K : gm_K} {R : gm_R} {M : gm_M} {AL : ck_AL} {AS : ck_AS} {F : ck_F} {σ σ0 : Nat → Int} {K0 : gm_K} {R0 : gm_R} {M0 : gm_M} {k : Nat → Nat → Nat → ck_AL → ck_AS → Nat → ck_F → Bool}
theorem ck_gr0 {k : Nat} {j : Int} (x : Int) {L : gm_L} {M : gm_M} (h : M k j = x := by rfl) : ck_gr L M (some (.inr (.inl (k, j, 0)))) (gm_vi x) := by
  show gm_vi x = gm_vi (M k j + 0)
  rw [Int.add_zero, h]
theorem ck_j_get {ix : Nat}  (hat : gm_at mi pc = some (.getfield ix)) (hS : ck_St O σ W n0 K0 R0 M0 AL AS F L st n K R M) (hk : ck_On O X LX σ mi d W n0 K0 R0 M0 (ck_Q O σ0 W n0 K0 R0 M0 outs) k) (h : ck_j O lx XF E mi d n0 W outs bc bs pc AL AS n F k (.getfield ix) = true) : gm_Wp X LX d bc bs mi pc L st n K R M (ck_Q O σ0 W n0 K0 R0 M0 outs) := by
  rcases AS with _ | ⟨⟨a | a | r | c, s⟩, AS⟩ <;> (try exact absurd (show false = true from h) Bool.false_ne_true)
  obtain ⟨f1, f2, f3, f4, f5⟩ := hS
  obtain ⟨st, rfl, hst⟩ := ck_qr f3
  unfold ck_j at h
  dsimp only at h
  cases hq : ck_kd O F r with
  | none => rw [hq] at h; cases h
  | some q =>
    rw [hq] at h
    dsimp only at h
    obtain ⟨h1, h2⟩ := ck_kd_s f1 f4 hq
    cases hj : gm_fld (gm_ow mi) ix (q.1 - 4) with
    | none => rw [hj] at h; cases h
    | some j =>
      rw [hj] at h
      dsimp only at h
      rw [Bool.and_eq_true, decide_eq_true_eq] at h
      obtain ⟨h3, h⟩ := h
      have hg := gm_p_get (X := X) (LX := LX) (d := d) (L := L) (st := st) (n := n) (K := K) (R := R) (M := M) hat h1 (show (K r).1 = (q.1 - 4) + 4 by rw [h2]; omega) hj
      split at h
      · rename_i e
        rw [if_pos e] at hg
        cases hv : ck_fR O F r j with
        | none => rw [hv] at h; cases h
        | some v =>
          rw [hv] at h
          obtain ⟨-, h5⟩ := ck_fR_s f1 f4 hv
          rw [h5] at hg
          exact gm_sz hg (hk _ _ _ _ _ _ _ _ _ _ _ _ h ⟨f1, f2, ck_pr hst, f4, f5⟩)
      · rename_i e
        rw [if_neg e] at hg
        cases hf : ck_fi F r j j with
        | some a =>
          rw [hf] at h
          have h5 := (ck_fi_s f4 hf).2 j (Int.le_refl _) (Int.le_refl _)
          exact gm_sz hg (hk _ _ _ _ _ _ _ _ _ _ _ _ h ⟨f1, f2, ck_pi h5.1 h5.2 (s := some (.inr (.inl (r, (j : Int), 0)))) (ck_gr0 _) hst, f4, f5⟩)
        | none =>
          rw [hf] at h
          dsimp only at h
          cases ht : gm_tyr O r j j with
          | some t =>
            rw [ht] at h
            have h5 := (gm_tyr_s f1 ht).2 j (Int.le_refl _) (Int.le_refl _)
            exact gm_sz hg (hk _ _ _ _ _ _ _ _ _ _ _ _ h ⟨f1, f2, ck_pi (a := (t.1, t.2, [])) h5.1 ⟨h5.2.1, h5.2.2, fun _ h => nomatch h⟩ (s := some (.inr (.inl (r, (j : Int), 0)))) (ck_gr0 _) hst, ck_tf_s f1 f4 ht, f5⟩)
          | none =>
            rw [ht] at h
            exact gm_sz hg (ck_nv (hk _ _ _ _ _ _ _ _ _ _ _ _ h ⟨f1, f2, ck_pi (ck_w_ir _) (ck_top_s _) (s := none) trivial hst, f4, f5⟩))
theorem ck_j_put {ix : Nat}  (hat : gm_at mi pc = some (.putfield ix)) (hS : ck_St O σ W n0 K0 R0 M0 AL AS F L st n K R M) (hk : ck_On O X LX σ mi d W n0 K0 R0 M0 (ck_Q O σ0 W n0 K0 R0 M0 outs) k) (h : ck_j O lx XF E mi d n0 W outs bc bs pc AL AS n F k (.putfield ix) = true) : gm_Wp X LX d bc bs mi pc L st n K R M (ck_Q O σ0 W n0 K0 R0 M0 outs) := by
  rcases AS with _ | ⟨⟨a | a | v | c, s⟩, _ | ⟨⟨b | b | r | c', t⟩, AS⟩⟩ <;> (try exact absurd (show false = true from h) Bool.false_ne_true)
  · obtain ⟨f1, f2, f3, f4, f5⟩ := hS
    obtain ⟨x, st, rfl, hx, ha, hsx, hst⟩ := ck_qi f3
    obtain ⟨st, e0, hst'⟩ := ck_qr hst
    subst e0
    replace hst := hst'
    unfold ck_j at h
    dsimp only at h
    cases hq : ck_kd O F r with
    | none => rw [hq] at h; cases h
    | some q =>
      rw [hq] at h
      dsimp only at h
      obtain ⟨h1, h2⟩ := ck_kd_s f1 f4 hq
      cases hj : gm_fld (gm_ow mi) ix (q.1 - 4) with
      | none => rw [hj] at h; cases h
      | some j =>
        rw [hj] at h
        dsimp only at h
        cases hgp : ck_gp O F r j s a with
        | some g =>
          rw [hgp] at h
          dsimp only at h
          simp only [Bool.and_eq_true, decide_eq_true_eq, beq_iff_eq] at h
          obtain ⟨⟨h3, h4, h5, h6, h7, h8⟩, h⟩ := h
          obtain ⟨M', m1, m2, m3, m4⟩ := ck_gF_s f1 f4 f5 hx ha hsx hgp h1.2 ⟨h5, h6, h7⟩
          exact gm_sz (gm_p_puti hat h1 (show (K r).1 = (q.1 - 4) + 4 by rw [h2]; omega) hj h4 (.inl h8)) (gm_Wp_g m1 (hk _ _ _ _ _ _ _ _ _ _ _ _ h ⟨m2, f2, ck_sh_s hst, m3, m4⟩))
        | none =>
        rw [hgp] at h
        dsimp only at h
        simp only [Bool.and_eq_true, Bool.or_eq_true, decide_eq_true_eq, beq_iff_eq, Option.isNone_iff_eq_none] at h
        obtain ⟨⟨h3, h4, h5, h6, h7⟩, h⟩ := h
        have hfit : gm_fk (q.1 - 4) j = 0 ∨ gm_fk (q.1 - 4) j = 1 ∧ (x = 0 ∨ x = 1) := by
          rcases h7 with h7 | ⟨h7, h8, h9⟩
          · exact .inl h7
          · refine .inr ⟨h7, ?_⟩
            have := ha.1
            have := ha.2.1
            omega
        exact gm_sz (gm_p_puti hat h1 (show (K r).1 = (q.1 - 4) + 4 by rw [h2]; omega) hj h4 hfit) (hk _ _ _ _ _ _ _ _ _ _ _ _ h ⟨gm_Fx_M f1 h5 (Int.le_refl _) (Int.le_refl _) ha.1 ha.2.1, f2, ck_sh_s hst, ck_upT_s f4 h1.2 (Int.le_refl _) (Int.le_refl _) hx ha, ck_fr_M f5 h6 (Int.le_refl _) (Int.le_refl _)⟩)
  · obtain ⟨f1, f2, f3, f4, f5⟩ := hS
    obtain ⟨st, rfl, hst⟩ := ck_qr f3
    obtain ⟨st, e0, hst'⟩ := ck_qr hst
    subst e0
    replace hst := hst'
    unfold ck_j at h
    dsimp only at h
    cases hq : ck_kd O F r with
    | none => rw [hq] at h; cases h
    | some q =>
      rw [hq] at h
      dsimp only at h
      obtain ⟨h1, h2⟩ := ck_kd_s f1 f4 hq
      cases hj : gm_fld (gm_ow mi) ix (q.1 - 4) with
      | none => rw [hj] at h; cases h
      | some j =>
        rw [hj] at h
        dsimp only at h
        simp only [Bool.and_eq_true, decide_eq_true_eq, beq_iff_eq, Option.isNone_iff_eq_none] at h
        obtain ⟨⟨h3, h4, h5, h6, h7⟩, h⟩ := h
        exact gm_sz (gm_p_putr hat h1 (show (K r).1 = (q.1 - 4) + 4 by rw [h2]; omega) hj h4 h7) (hk _ _ _ _ _ _ _ _ _ _ _ _ h ⟨gm_Fx_R f1 h5, f2, hst, ck_upR_s f4 h1.2, ck_fr_R f5 h6⟩)
theorem ck_j_iald  (hX : ck_OkX σ X XF) (hlx : ∀ l, lx = some l → l = LX) (hat : gm_at mi pc = some (.iaload)) (hS : ck_St O σ W n0 K0 R0 M0 AL AS F L st n K R M) (hk : ck_On O X LX σ mi d W n0 K0 R0 M0 (ck_Q O σ0 W n0 K0 R0 M0 outs) k) (h : ck_j O lx XF E mi d n0 W outs bc bs pc AL AS n F k (.iaload) = true) : gm_Wp X LX d bc bs mi pc L st n K R M (ck_Q O σ0 W n0 K0 R0 M0 outs) := by
  rcases AS with _ | ⟨⟨e | e | r | c, t⟩, _ | ⟨⟨a | a | r | c, s⟩, AS⟩⟩ <;> (try exact absurd (show false = true from h) Bool.false_ne_true)
  · obtain ⟨f1, f2, f3, f4, f5⟩ := hS
    obtain ⟨i, st, rfl, hi, he, -, hst⟩ := ck_qi f3
    obtain ⟨st, e0, hst'⟩ := ck_qr hst
    subst e0
    replace hst := hst'
    unfold ck_j at h
    dsimp only at h
    cases hq : ck_kd O F r with
    | none => rw [hq] at h; cases h
    | some q =>
      rw [hq] at h
      dsimp only at h
      obtain ⟨h1, h2⟩ := ck_kd_s f1 f4 hq
      rw [Bool.and_eq_true] at h
      obtain ⟨h0, h⟩ := h
      simp only [Bool.and_eq_true, beq_iff_eq, decide_eq_true_eq] at h0
      obtain ⟨h3, h4, h5⟩ := h0
      have hi1 := he.1
      have hi2 := he.2.1
      have hg := gm_p_iald (X := X) (LX := LX) (d := d) (L := L) (st := st) (n := n) (K := K) (R := R) (M := M) (e0 := i) hat h1 (by rw [h2]; exact h3) (by rw [gm_ir_w hi, h2]; omega)
      rw [gm_ir_w hi] at hg
      cases hf : ck_fi F r e.1 e.2.1 with
      | some a =>
        rw [hf] at h
        have h6 := (ck_fi_s f4 hf).2 i hi1 hi2
        refine gm_sz hg (hk _ _ _ _ _ _ _ _ _ _ _ _ h ⟨f1, f2, ck_pi h6.1 h6.2 ?_ hst, f4, f5⟩)
        split
        · rename_i e9
          have := ck_sg_s he e9
          subst this
          exact ck_gr0 _
        · exact trivial
      | none =>
        rw [hf] at h
        dsimp only at h
        cases ht : gm_tyr O r e.1 e.2.1 with
        | none =>
          rw [ht] at h
          exact gm_sz hg (ck_nv (hk _ _ _ _ _ _ _ _ _ _ _ _ h ⟨f1, f2, ck_pi (ck_w_ir _) (ck_top_s _) (s := none) trivial hst, f4, f5⟩))
        | some t =>
          rw [ht] at h
          dsimp only at h
          have h6 := (gm_tyr_s f1 ht).2 i hi1 hi2
          split at h
          · rename_i e9
            have e8 := ck_sg_s he e9
            have e7 : e.2.1 = e.1 := by
              unfold ck_sg at e9
              exact (of_decide_eq_true e9).symm
            rw [e7] at ht
            refine gm_sz hg (hk _ _ _ _ _ _ _ _ _ _ _ _ h ⟨f1, f2, ck_pi (a := (t.1, t.2, [])) h6.1 ⟨h6.2.1, h6.2.2, fun _ h => nomatch h⟩ (s := some (.inr (.inl (r, e.1, 0)))) ?_ hst, ck_tf_s f1 f4 ht, f5⟩)
            subst e8
            exact ck_gr0 _
          · exact gm_sz hg (hk _ _ _ _ _ _ _ _ _ _ _ _ h ⟨f1, f2, ck_pi (a := (t.1, t.2, [])) h6.1 ⟨h6.2.1, h6.2.2, fun _ h => nomatch h⟩ (s := none) trivial hst, f4, f5⟩)
  · obtain ⟨f1, f2, f3, f4, f5⟩ := hS
    obtain ⟨i, st, rfl, hi, he, -, hst⟩ := ck_qi f3
    obtain ⟨st, e0, hst'⟩ := ck_qo hst
    subst e0
    replace hst := hst'
    unfold ck_j at h
    dsimp only at h
    cases hl9 : lx with
    | none => rw [hl9] at h; cases h
    | some l =>
    have hl8 := hlx l hl9
    subst hl8
    rw [hl9] at h
    dsimp only at h
    rw [Bool.and_eq_true] at h
    obtain ⟨h0, h⟩ := h
    simp only [Bool.and_eq_true, beq_iff_eq, decide_eq_true_eq] at h0
    obtain ⟨h3, h4, h5⟩ := h0
    subst h3
    have hi1 := he.1
    have hi2 := he.2.1
    have hg := gm_p_sald (X := X) (LX := l) (d := d) (L := L) (st := st) (n := n) (K := K) (R := R) (M := M) (e0 := i) hat (by rw [gm_ir_w hi]; omega)
    rw [gm_ir_w hi] at hg
    cases hf : XF.find? fun q => decide (q.1 ≤ e.1) && decide (e.2.1 ≤ q.2.1) with
    | some q =>
      rw [hf] at h
      have h6 := List.find?_some hf
      simp only [Bool.and_eq_true, decide_eq_true_eq] at h6
      have h7 := hX q (List.mem_of_find?_eq_some hf) i (by omega) (by omega)
      exact gm_sz hg (hk _ _ _ _ _ _ _ _ _ _ _ _ h ⟨f1, f2, ck_pi h7.1 h7.2 (s := none) trivial hst, f4, f5⟩)
    | none =>
      rw [hf] at h
      exact gm_sz hg (ck_nv (hk _ _ _ _ _ _ _ _ _ _ _ _ h ⟨f1, f2, ck_pi (ck_w_ir _) (ck_top_s _) (s := none) trivial hst, f4, f5⟩))
theorem ck_j_bald   (hat : gm_at mi pc = some (.baload)) (hS : ck_St O σ W n0 K0 R0 M0 AL AS F L st n K R M) (hk : ck_On O X LX σ mi d W n0 K0 R0 M0 (ck_Q O σ0 W n0 K0 R0 M0 outs) k) (h : ck_j O lx XF E mi d n0 W outs bc bs pc AL AS n F k (.baload) = true) : gm_Wp X LX d bc bs mi pc L st n K R M (ck_Q O σ0 W n0 K0 R0 M0 outs) := by
  rcases AS with _ | ⟨⟨e | e | r | c, t⟩, _ | ⟨⟨a | a | r | c, s⟩, AS⟩⟩ <;> (try exact absurd (show false = true from h) Bool.false_ne_true)
  · obtain ⟨f1, f2, f3, f4, f5⟩ := hS
    obtain ⟨i, st, rfl, hi, he, -, hst⟩ := ck_qi f3
    obtain ⟨st, e0, hst'⟩ := ck_qr hst
    subst e0
    replace hst := hst'
    unfold ck_j at h
    dsimp only at h
    cases hq : ck_kd O F r with
    | none => rw [hq] at h; cases h
    | some q =>
      rw [hq] at h
      dsimp only at h
      obtain ⟨h1, h2⟩ := ck_kd_s f1 f4 hq
      rw [Bool.and_eq_true] at h
      obtain ⟨h0, h⟩ := h
      simp only [Bool.and_eq_true, beq_iff_eq, decide_eq_true_eq] at h0
      obtain ⟨h3, h4, h5⟩ := h0
      have hi1 := he.1
      have hi2 := he.2.1
      have hg := gm_p_bald (X := X) (LX := LX) (d := d) (L := L) (st := st) (n := n) (K := K) (R := R) (M := M) (e0 := i) hat h1 (by rw [h2]; exact h3) (by rw [gm_ir_w hi, h2]; omega)
      rw [gm_ir_w hi] at hg
      cases hf : ck_fi F r e.1 e.2.1 with
      | some a =>
        rw [hf] at h
        have h6 := (ck_fi_s f4 hf).2 i hi1 hi2
        refine gm_sz hg (hk _ _ _ _ _ _ _ _ _ _ _ _ h ⟨f1, f2, ck_pi h6.1 h6.2 ?_ hst, f4, f5⟩)
        split
        · rename_i e9
          have := ck_sg_s he e9
          subst this
          exact ck_gr0 _
        · exact trivial
      | none =>
        rw [hf] at h
        dsimp only at h
        cases ht : gm_tyr O r e.1 e.2.1 with
        | none =>
          rw [ht] at h
          exact gm_sz hg (ck_nv (hk _ _ _ _ _ _ _ _ _ _ _ _ h ⟨f1, f2, ck_pi (ck_w_ir _) (ck_top_s _) (s := none) trivial hst, f4, f5⟩))
        | some t =>
          rw [ht] at h
          dsimp only at h
          have h6 := (gm_tyr_s f1 ht).2 i hi1 hi2
          split at h
          · rename_i e9
            have e8 := ck_sg_s he e9
            have e7 : e.2.1 = e.1 := by
              unfold ck_sg at e9
              exact (of_decide_eq_true e9).symm
            rw [e7] at ht
            refine gm_sz hg (hk _ _ _ _ _ _ _ _ _ _ _ _ h ⟨f1, f2, ck_pi (a := (t.1, t.2, [])) h6.1 ⟨h6.2.1, h6.2.2, fun _ h => nomatch h⟩ (s := some (.inr (.inl (r, e.1, 0)))) ?_ hst, ck_tf_s f1 f4 ht, f5⟩)
            subst e8
            exact ck_gr0 _
          · exact gm_sz hg (hk _ _ _ _ _ _ _ _ _ _ _ _ h ⟨f1, f2, ck_pi (a := (t.1, t.2, [])) h6.1 ⟨h6.2.1, h6.2.2, fun _ h => nomatch h⟩ (s := none) trivial hst, f4, f5⟩)
theorem ck_j_lald   (hat : gm_at mi pc = some (.laload)) (hS : ck_St O σ W n0 K0 R0 M0 AL AS F L st n K R M) (hk : ck_On O X LX σ mi d W n0 K0 R0 M0 (ck_Q O σ0 W n0 K0 R0 M0 outs) k) (h : ck_j O lx XF E mi d n0 W outs bc bs pc AL AS n F k (.laload) = true) : gm_Wp X LX d bc bs mi pc L st n K R M (ck_Q O σ0 W n0 K0 R0 M0 outs) := by
  rcases AS with _ | ⟨⟨e | e | r | c, t⟩, _ | ⟨⟨a | a | r | c, s⟩, AS⟩⟩ <;> (try exact absurd (show false = true from h) Bool.false_ne_true)
  · obtain ⟨f1, f2, f3, f4, f5⟩ := hS
    obtain ⟨i, st, rfl, hi, he, -, hst⟩ := ck_qi f3
    obtain ⟨st, e0, hst'⟩ := ck_qr hst
    subst e0
    replace hst := hst'
    unfold ck_j at h
    dsimp only at h
    cases hq : ck_kd O F r with
    | none => rw [hq] at h; cases h
    | some q =>
      rw [hq] at h
      dsimp only at h
      obtain ⟨h1, h2⟩ := ck_kd_s f1 f4 hq
      rw [Bool.and_eq_true] at h
      obtain ⟨h0, h⟩ := h
      simp only [Bool.and_eq_true, beq_iff_eq, decide_eq_true_eq] at h0
      obtain ⟨h3, h4, h5⟩ := h0
      have hi1 := he.1
      have hi2 := he.2.1
      have hg := gm_p_lald (X := X) (LX := LX) (d := d) (L := L) (st := st) (n := n) (K := K) (R := R) (M := M) (e0 := i) hat h1 (by rw [h2]; exact h3) (by rw [gm_ir_w hi, h2]; omega)
      rw [gm_ir_w hi] at hg
      cases hf : ck_fi F r e.1 e.2.1 with
      | some a =>
        rw [hf] at h
        have h6 := (ck_fi_s f4 hf).2 i hi1 hi2
        exact gm_sz hg (hk _ _ _ _ _ _ _ _ _ _ _ _ h ⟨f1, f2, ck_pl (ck_r6_i h6.1) h6.2 hst, f4, f5⟩)
      | none =>
        rw [hf] at h
        exact gm_sz hg (ck_nv6 (hk _ _ _ _ _ _ _ _ _ _ _ _ h ⟨f1, f2, ck_pl (ck_r6_w _) (ck_tp6_s (ck_r6_w _)) hst, f4, f5⟩))
theorem ck_j_aald   (hat : gm_at mi pc = some (.aaload)) (hS : ck_St O σ W n0 K0 R0 M0 AL AS F L st n K R M) (hk : ck_On O X LX σ mi d W n0 K0 R0 M0 (ck_Q O σ0 W n0 K0 R0 M0 outs) k) (h : ck_j O lx XF E mi d n0 W outs bc bs pc AL AS n F k (.aaload) = true) : gm_Wp X LX d bc bs mi pc L st n K R M (ck_Q O σ0 W n0 K0 R0 M0 outs) := by
  rcases AS with _ | ⟨⟨e | e | r | c, t⟩, _ | ⟨⟨a | a | r | c, s⟩, AS⟩⟩ <;> (try exact absurd (show false = true from h) Bool.false_ne_true)
  obtain ⟨f1, f2, f3, f4, f5⟩ := hS
  obtain ⟨i, st, rfl, hi, he, -, hst⟩ := ck_qi f3
  obtain ⟨st, e0, hst'⟩ := ck_qr hst
  subst e0
  replace hst := hst'
  unfold ck_j at h
  dsimp only at h
  cases hq : ck_kd O F r with
  | none => rw [hq] at h; cases h
  | some q =>
    rw [hq] at h
    dsimp only at h
    obtain ⟨h1, h2⟩ := ck_kd_s f1 f4 hq
    rw [Bool.and_eq_true] at h
    obtain ⟨h0, h⟩ := h
    simp only [Bool.and_eq_true, beq_iff_eq, decide_eq_true_eq] at h0
    obtain ⟨h3, h4, h5, h6⟩ := h0
    have he1 := he.1
    have he2 := he.2.1
    have hg := gm_p_aald (X := X) (LX := LX) (d := d) (L := L) (st := st) (n := n) (K := K) (R := R) (M := M) (e0 := i) hat h1 (by rw [h2]; exact h3) (by rw [gm_ir_w hi, h2]; omega)
    rw [gm_ir_w hi] at hg
    have h7 := List.all_eq_true.mp h (i - e.1).toNat (List.mem_range.mpr (by omega))
    have h8 : e.1 + ((i - e.1).toNat : Int) = i := by omega
    rw [h8] at h7
    cases hf : ck_fR O F r i with
    | some v =>
      rw [hf] at h7
      rw [(ck_fR_s f1 f4 hf).2] at hg
      exact gm_sz hg (hk _ _ _ _ _ _ _ _ _ _ _ _ h7 ⟨f1, f2, ck_pr hst, f4, f5⟩)
    | none =>
      rw [hf] at h7
      cases h7
theorem ck_j_iast   (hat : gm_at mi pc = some (.iastore)) (hS : ck_St O σ W n0 K0 R0 M0 AL AS F L st n K R M) (hk : ck_On O X LX σ mi d W n0 K0 R0 M0 (ck_Q O σ0 W n0 K0 R0 M0 outs) k) (h : ck_j O lx XF E mi d n0 W outs bc bs pc AL AS n F k (.iastore) = true) : gm_Wp X LX d bc bs mi pc L st n K R M (ck_Q O σ0 W n0 K0 R0 M0 outs) := by
  rcases AS with _ | ⟨⟨a | a | v | c, t⟩, _ | ⟨⟨e | e | r | c, s⟩, _ | ⟨⟨b | b | r | c, s'⟩, AS⟩⟩⟩ <;> (try exact absurd (show false = true from h) Bool.false_ne_true)
  · obtain ⟨f1, f2, f3, f4, f5⟩ := hS
    obtain ⟨x, st, rfl, hx, ha, -, hst⟩ := ck_qi f3
    obtain ⟨i, st, rfl, hi, he, -, hst⟩ := ck_qi hst
    obtain ⟨st, e0, hst'⟩ := ck_qr hst
    subst e0
    replace hst := hst'
    unfold ck_j at h
    dsimp only at h
    cases hq : ck_kd O F r with
    | none => rw [hq] at h; cases h
    | some q =>
      rw [hq] at h
      dsimp only at h
      obtain ⟨h1, h2⟩ := ck_kd_s f1 f4 hq
      rw [Bool.and_eq_true] at h
      obtain ⟨h0, h⟩ := h
      simp only [Bool.and_eq_true, beq_iff_eq, decide_eq_true_eq] at h0
      obtain ⟨h3, h4, h5, h6, ht⟩ := h0
      have hi1 := he.1
      have hi2 := he.2.1
      have hg := gm_p_iast (X := X) (LX := LX) (d := d) (L := L) (st := st) (n := n) (K := K) (R := R) (M := M) (e0 := i) (x := x) hat h1 (by rw [h2]; exact h3) (by rw [gm_ir_w hi, h2]; omega)
      rw [gm_ir_w hi] at hg
      exact gm_sz hg (hk _ _ _ _ _ _ _ _ _ _ _ _ h ⟨gm_Fx_M f1 ht hi1 hi2 ha.1 ha.2.1, f2, ck_sh_s hst, ck_upT_s f4 h1.2 hi1 hi2 hx ha, ck_fr_M f5 h6 hi1 hi2⟩)
theorem ck_j_bast   (hat : gm_at mi pc = some (.bastore)) (hS : ck_St O σ W n0 K0 R0 M0 AL AS F L st n K R M) (hk : ck_On O X LX σ mi d W n0 K0 R0 M0 (ck_Q O σ0 W n0 K0 R0 M0 outs) k) (h : ck_j O lx XF E mi d n0 W outs bc bs pc AL AS n F k (.bastore) = true) : gm_Wp X LX d bc bs mi pc L st n K R M (ck_Q O σ0 W n0 K0 R0 M0 outs) := by
  rcases AS with _ | ⟨⟨a | a | v | c, t⟩, _ | ⟨⟨e | e | r | c, s⟩, _ | ⟨⟨b | b | r | c, s'⟩, AS⟩⟩⟩ <;> (try exact absurd (show false = true from h) Bool.false_ne_true)
  · obtain ⟨f1, f2, f3, f4, f5⟩ := hS
    obtain ⟨x, st, rfl, hx, ha, -, hst⟩ := ck_qi f3
    obtain ⟨i, st, rfl, hi, he, -, hst⟩ := ck_qi hst
    obtain ⟨st, e0, hst'⟩ := ck_qr hst
    subst e0
    replace hst := hst'
    unfold ck_j at h
    dsimp only at h
    cases hq : ck_kd O F r with
    | none => rw [hq] at h; cases h
    | some q =>
      rw [hq] at h
      dsimp only at h
      obtain ⟨h1, h2⟩ := ck_kd_s f1 f4 hq
      rw [Bool.and_eq_true] at h
      obtain ⟨h0, h⟩ := h
      simp only [Bool.and_eq_true, beq_iff_eq, decide_eq_true_eq] at h0
      obtain ⟨h3, h4, h5, h6, ht⟩ := h0
      have hi1 := he.1
      have hi2 := he.2.1
      have hg := gm_p_bast (X := X) (LX := LX) (d := d) (L := L) (st := st) (n := n) (K := K) (R := R) (M := M) (e0 := i) (x := x) hat h1 (by rw [h2]; exact h3) (by rw [gm_ir_w hi, h2]; omega)
      rw [gm_ir_w hi] at hg
      have hb0 : -128 ≤ gm_wb x ∧ gm_wb x ≤ 127 := by unfold gm_wb; omega
      have hFb : gm_Fx O n K R (gm_uM M r i (gm_wb x)) := by
        split at ht
        · rename_i e9
          have h9 : gm_wb x = x := by
            have := ha.1
            have := ha.2.1
            unfold gm_wb
            omega
          rw [h9]
          exact gm_Fx_M f1 ht hi1 hi2 ha.1 ha.2.1
        · exact gm_Fx_M f1 ht hi1 hi2 hb0.1 hb0.2
      refine gm_sz hg (hk _ _ _ _ _ _ _ _ _ _ _ _ h ⟨hFb, f2, ck_sh_s hst, ck_upT_s f4 h1.2 hi1 hi2 (by unfold gm_ir; omega) ?_, ck_fr_M f5 h6 hi1 hi2⟩)
      split
      · rename_i e9
        have h9 : gm_wb x = x := by
          have := ha.1
          have := ha.2.1
          unfold gm_wb
          omega
        rw [h9]
        exact ha
      · exact ⟨hb0.1, hb0.2, ck_gt_none⟩
theorem ck_j_last   (hat : gm_at mi pc = some (.lastore)) (hS : ck_St O σ W n0 K0 R0 M0 AL AS F L st n K R M) (hk : ck_On O X LX σ mi d W n0 K0 R0 M0 (ck_Q O σ0 W n0 K0 R0 M0 outs) k) (h : ck_j O lx XF E mi d n0 W outs bc bs pc AL AS n F k (.lastore) = true) : gm_Wp X LX d bc bs mi pc L st n K R M (ck_Q O σ0 W n0 K0 R0 M0 outs) := by
  rcases AS with _ | ⟨⟨a | a | v | c, t⟩, _ | ⟨⟨e | e | r | c, s⟩, _ | ⟨⟨b | b | r | c, s'⟩, AS⟩⟩⟩ <;> (try exact absurd (show false = true from h) Bool.false_ne_true)
  · obtain ⟨f1, f2, f3, f4, f5⟩ := hS
    obtain ⟨x, st, rfl, hx, ha, hst⟩ := ck_ql f3
    obtain ⟨i, st, rfl, hi, he, -, hst⟩ := ck_qi hst
    obtain ⟨st, e0, hst'⟩ := ck_qr hst
    subst e0
    replace hst := hst'
    unfold ck_j at h
    dsimp only at h
    cases hq : ck_kd O F r with
    | none => rw [hq] at h; cases h
    | some q =>
      rw [hq] at h
      dsimp only at h
      obtain ⟨h1, h2⟩ := ck_kd_s f1 f4 hq
      rw [Bool.and_eq_true] at h
      obtain ⟨h0, h⟩ := h
      simp only [Bool.and_eq_true, beq_iff_eq, decide_eq_true_eq] at h0
      obtain ⟨h3, h4, h5, h6, ht⟩ := h0
      have hi1 := he.1
      have hi2 := he.2.1
      have hg := gm_p_last (X := X) (LX := LX) (d := d) (L := L) (st := st) (n := n) (K := K) (R := R) (M := M) (e0 := i) (x := x) hat h1 (by rw [h2]; exact h3) (by rw [gm_ir_w hi, h2]; omega)
      rw [gm_ir_w hi] at hg
      split at h
      · rename_i e9
        exact gm_sz hg (hk _ _ _ _ _ _ _ _ _ _ _ _ h ⟨gm_Fx_E f1 (by rw [Bool.and_eq_true]; exact ht), f2, ck_sh_s hst, ck_up_s f4 h1.2 hi1 hi2 (ck_in_s ha e9) ha, ck_fr_M f5 h6 hi1 hi2⟩)
      · refine gm_sz hg (hk _ _ _ _ _ _ _ _ _ _ _ _ h ⟨gm_Fx_E f1 (by rw [Bool.and_eq_true]; exact ht), f2, ck_sh_s hst, ⟨f4.1, f4.2.1, fun p hp => ?_⟩, ck_fr_M f5 h6 hi1 hi2⟩)
        obtain ⟨h7, h8⟩ := List.mem_filter.mp hp
        have h9 := f4.2.2 p h7
        refine ⟨h9.1, fun j a1 a2 => ?_⟩
        unfold gm_uM
        rw [if_neg (by rintro ⟨rfl, -⟩; simp at h8)]
        exact h9.2 j a1 a2
theorem ck_j_aast   (hat : gm_at mi pc = some (.aastore)) (hS : ck_St O σ W n0 K0 R0 M0 AL AS F L st n K R M) (hk : ck_On O X LX σ mi d W n0 K0 R0 M0 (ck_Q O σ0 W n0 K0 R0 M0 outs) k) (h : ck_j O lx XF E mi d n0 W outs bc bs pc AL AS n F k (.aastore) = true) : gm_Wp X LX d bc bs mi pc L st n K R M (ck_Q O σ0 W n0 K0 R0 M0 outs) := by
  rcases AS with _ | ⟨⟨a | a | v | c, t⟩, _ | ⟨⟨e | e | r | c, s⟩, _ | ⟨⟨b | b | r | c, s'⟩, AS⟩⟩⟩ <;> (try exact absurd (show false = true from h) Bool.false_ne_true)
  · obtain ⟨f1, f2, f3, f4, f5⟩ := hS
    obtain ⟨st, rfl, hst⟩ := ck_qr f3
    obtain ⟨i, st, rfl, hi, he, -, hst⟩ := ck_qi hst
    obtain ⟨st, e0, hst'⟩ := ck_qr hst
    subst e0
    replace hst := hst'
    unfold ck_j at h
    dsimp only at h
    split at h
    · rename_i q p hq hp
      obtain ⟨h1, h2⟩ := ck_kd_s f1 f4 hq
      obtain ⟨g1, g2⟩ := ck_kd_s f1 f4 hp
      rw [Bool.and_eq_true] at h
      obtain ⟨h0, h⟩ := h
      simp only [Bool.and_eq_true, beq_iff_eq, decide_eq_true_eq, Option.isNone_iff_eq_none] at h0
      obtain ⟨h3, h4, h5, h6, h7, h8, h9⟩ := h0
      have hi1 := ck_sg_s he h5
      have hg := gm_p_aast (X := X) (LX := LX) (d := d) (L := L) (st := st) (n := n) (K := K) (R := R) (M := M) (e0 := i) (r := v) (ci := 1) hat h1 (by rw [h2]; exact h3) (by rw [gm_ir_w hi, h2]; omega) g1 (by rw [g2]; exact h4) (by decide) gm_cn1
      rw [gm_ir_w hi] at hg
      rw [hi1] at hg ⊢
      exact gm_sz hg (hk _ _ _ _ _ _ _ _ _ _ _ _ h ⟨gm_Fx_R f1 h8, f2, hst, ck_upR_s f4 h1.2, ck_fr_R f5 h9⟩)
    · cases h
theorem ck_j_alen  (hlx : ∀ l, lx = some l → l = LX) (hat : gm_at mi pc = some (.arraylength)) (hS : ck_St O σ W n0 K0 R0 M0 AL AS F L st n K R M) (hk : ck_On O X LX σ mi d W n0 K0 R0 M0 (ck_Q O σ0 W n0 K0 R0 M0 outs) k) (h : ck_j O lx XF E mi d n0 W outs bc bs pc AL AS n F k (.arraylength) = true) : gm_Wp X LX d bc bs mi pc L st n K R M (ck_Q O σ0 W n0 K0 R0 M0 outs) := by
  rcases AS with _ | ⟨⟨a | a | r | c, s⟩, AS⟩ <;> (try exact absurd (show false = true from h) Bool.false_ne_true)
  · obtain ⟨f1, f2, f3, f4, f5⟩ := hS
    obtain ⟨st, rfl, hst⟩ := ck_qr f3
    unfold ck_j at h
    dsimp only at h
    cases hq : ck_kd O F r with
    | none => rw [hq] at h; cases h
    | some q =>
      rw [hq] at h
      dsimp only at h
      obtain ⟨h1, h2⟩ := ck_kd_s f1 f4 hq
      simp only [Bool.and_eq_true, decide_eq_true_eq] at h
      obtain ⟨⟨h3, h4⟩, h⟩ := h
      have hg := gm_p_alen (X := X) (LX := LX) (d := d) (L := L) (st := st) (n := n) (K := K) (R := R) (M := M) hat h1 (by rw [h2]; exact h3)
      rw [h2] at hg
      exact gm_sz hg (hk _ _ _ _ _ _ _ _ _ _ _ _ h ⟨f1, f2, ck_pi (ck_cvk_i h4) (ck_one_s _) (s := none) trivial hst, f4, f5⟩)
  · obtain ⟨f1, f2, f3, f4, f5⟩ := hS
    obtain ⟨st, rfl, hst⟩ := ck_qo f3
    unfold ck_j at h
    dsimp only at h
    cases hl9 : lx with
    | none => rw [hl9] at h; cases h
    | some l =>
    have hl8 := hlx l hl9
    subst hl8
    rw [hl9] at h
    dsimp only at h
    simp only [Bool.and_eq_true, beq_iff_eq] at h
    obtain ⟨⟨h3, h4⟩, h⟩ := h
    subst h3
    have hg := gm_p_slen (X := X) (LX := l) (d := d) (L := L) (st := st) (n := n) (K := K) (R := R) (M := M) hat
    have h9 : ck_gs σ L M ((.inl (ck_one (l : Int)), none) :: AS) (gm_vi (l : Int) :: st) := ck_pi (ck_cvk_i h4) (ck_one_s (l : Int)) (s := none) trivial hst
    exact gm_sz hg (hk bc bs (pc + 1) AL _ n F L _ K R M h ⟨f1, f2, h9, f4, f5⟩)
theorem ck_j_new {ix : Nat} (hs : ∀ s, s < 100 → σ s = σ0 s) (hat : gm_at mi pc = some (.new ix)) (hS : ck_St O σ W n0 K0 R0 M0 AL AS F L st n K R M) (hk : ck_On O X LX σ mi d W n0 K0 R0 M0 (ck_Q O σ0 W n0 K0 R0 M0 outs) k) (h : ck_j O lx XF E mi d n0 W outs bc bs pc AL AS n F k (.new ix) = true) : gm_Wp X LX d bc bs mi pc L st n K R M (ck_Q O σ0 W n0 K0 R0 M0 outs) := by
  obtain ⟨f1, f2, f3, f4, f5⟩ := hS
  unfold ck_j at h
  dsimp only at h
  cases hn : gm_new (gm_ow mi) ix with
  | some ci =>
    rw [hn] at h
    dsimp only at h
    simp only [Bool.and_eq_true, decide_eq_true_eq] at h
    obtain ⟨⟨⟨h1, h2⟩, h9⟩, h⟩ := h
    refine gm_sp (gm_p_new h9 hat hn) h1 h2 (hk _ _ _ _ _ _ _ _ _ _ _ _ h ⟨gm_Fx_n f1, f2, ?_, ck_new_s f4 ck_nlr, ck_fr_n f5⟩)
    exact ck_pr (ck_sh_s f3)
  | none =>
    rw [hn] at h
    dsimp only at h
    cases hx : gm_isx mi pc ix with
    | none => rw [hx] at h; cases h
    | some x =>
      rw [hx] at h
      dsimp only at h
      simp only [Bool.and_eq_true, decide_eq_true_eq, List.isEmpty_iff] at h
      obtain ⟨⟨hh, h1, h2, h3, h4⟩, h⟩ := h
      obtain ⟨ic, is, id, lw, a1, a2, a3, a4, a5, a6⟩ := gm_isx_of hx
      exact gm_throw hh hat a1 a2 a3 a4 a5 a6 (ck_sum8_s f3 h2) h1 h3 h4 (ck_end_s (how := .inl x) hs f1 f4 f5 rfl h)
theorem ck_j_newa {at0 : ArrayType}  (hat : gm_at mi pc = some (.newarray at0)) (hS : ck_St O σ W n0 K0 R0 M0 AL AS F L st n K R M) (hk : ck_On O X LX σ mi d W n0 K0 R0 M0 (ck_Q O σ0 W n0 K0 R0 M0 outs) k) (h : ck_j O lx XF E mi d n0 W outs bc bs pc AL AS n F k (.newarray at0) = true) : gm_Wp X LX d bc bs mi pc L st n K R M (ck_Q O σ0 W n0 K0 R0 M0 outs) := by
  unfold ck_j at h
  dsimp only at h
  split at h
  · rename_i e s AS kd hkd
    obtain ⟨f1, f2, f3, f4, f5⟩ := hS
    obtain ⟨x, st, rfl, hx, ha, -, hst⟩ := ck_qi f3
    simp only [Bool.and_eq_true, decide_eq_true_eq] at h
    obtain ⟨⟨h1, h2, h3, h4, h5, h9⟩, h⟩ := h
    have h6 := ck_sg_s ha h1
    subst h6
    have hkd2 : (at0 = .int ∧ kd = 0) ∨ (at0 = .byte ∧ kd = 1) ∨ (at0 = .long ∧ kd = 2) := by
      cases at0 <;> simp at hkd <;> subst hkd <;> simp
    have hg := gm_p_newa (X := X) (LX := LX) (d := d) (L := L) (st := st) (n := n) (K := K) (R := R) (M := M) (e0 := e.1) h9 hat hkd2 (by rw [gm_ir_w hx]; exact ⟨h2, h3⟩)
    rw [gm_ir_w hx] at hg
    exact gm_sp hg h4 h5 (hk _ _ _ _ _ _ _ _ _ _ _ _ h ⟨gm_Fx_n f1, f2, ck_pr (ck_sh_s hst), ck_new_s f4 ck_nl1, ck_fr_n f5⟩)
  · cases h
theorem ck_j_anew {ix : Nat}  (hat : gm_at mi pc = some (.anewarray ix)) (hS : ck_St O σ W n0 K0 R0 M0 AL AS F L st n K R M) (hk : ck_On O X LX σ mi d W n0 K0 R0 M0 (ck_Q O σ0 W n0 K0 R0 M0 outs) k) (h : ck_j O lx XF E mi d n0 W outs bc bs pc AL AS n F k (.anewarray ix) = true) : gm_Wp X LX d bc bs mi pc L st n K R M (ck_Q O σ0 W n0 K0 R0 M0 outs) := by
  rcases AS with _ | ⟨⟨a | a | r | c, s⟩, AS⟩ <;> (try exact absurd (show false = true from h) Bool.false_ne_true)
  obtain ⟨f1, f2, f3, f4, f5⟩ := hS
  obtain ⟨x, st, rfl, hx, ha, -, hst⟩ := ck_qi f3
  have h : ((decide (gm_new (gm_ow mi) ix = some 1) && (ck_sg a && (decide (0 ≤ a.1) && (decide (a.1 < 60000000) && (decide (1 ≤ bc) && (decide (a.1.toNat ≤ bs) && decide (n + 1 < 100000))))))) && k (bc - 1) (bs - a.1.toNat) (pc + 3) AL ((.inr (.inr (.inl (n + 1))), none) :: ck_sh AS) (n + 1) ((n + 1, 3, a.1.toNat) :: F.1, F.2.1, F.2.2)) = true := h
  simp only [Bool.and_eq_true, decide_eq_true_eq] at h
  obtain ⟨⟨h0, h1, h2, h3, h4, h5, h9⟩, h⟩ := h
  have h6 := ck_sg_s ha h1
  subst h6
  have hg := gm_p_anew (X := X) (LX := LX) (d := d) (L := L) (st := st) (n := n) (K := K) (R := R) (M := M) (e0 := a.1) h9 hat h0 gm_cn1 (by rw [gm_ir_w hx]; exact ⟨h2, h3⟩)
  rw [gm_ir_w hx] at hg
  exact gm_sp hg h4 h5 (hk _ _ _ _ _ _ _ _ _ _ _ _ h ⟨gm_Fx_n f1, f2, ck_pr (ck_sh_s hst), ck_new_s (l := []) f4 ck_nl0, ck_fr_n f5⟩)
theorem ck_j_ldc {ix : Nat}  (hat : gm_at mi pc = some (.ldc ix)) (hS : ck_St O σ W n0 K0 R0 M0 AL AS F L st n K R M) (hk : ck_On O X LX σ mi d W n0 K0 R0 M0 (ck_Q O σ0 W n0 K0 R0 M0 outs) k) (h : ck_j O lx XF E mi d n0 W outs bc bs pc AL AS n F k (.ldc ix) = true) : gm_Wp X LX d bc bs mi pc L st n K R M (ck_Q O σ0 W n0 K0 R0 M0 outs) := by
  obtain ⟨f1, f2, f3, f4, f5⟩ := hS
  unfold ck_j at h
  dsimp only at h
  cases hv : gm_ild (gm_ow mi) ix with
  | some q =>
    rw [hv] at h
    obtain ⟨q1, q2⟩ := q
    simp only [Bool.and_eq_true, beq_iff_eq] at h
    obtain ⟨⟨h1, h2⟩, h⟩ := h
    subst h1
    exact gm_sz (gm_p_ldci hat (.inl rfl) hv) (hk _ _ _ _ _ _ _ _ _ _ _ _ h ⟨f1, f2, ck_pi (ck_cvk_i h2) (ck_one_s _) (s := none) trivial f3, f4, f5⟩)
  | none =>
    rw [hv] at h
    dsimp only at h
    cases hw : gm_sld (gm_ow mi) ix with
    | some id =>
      rw [hw] at h
      exact gm_sz (gm_p_ldcs hat (.inl rfl) hw) (hk _ _ _ _ _ _ _ _ _ _ _ _ h ⟨f1, f2, ck_po f3, f4, f5⟩)
    | none => rw [hw] at h; cases h
theorem ck_j_ldc_w {ix : Nat}  (hat : gm_at mi pc = some (.ldc_w ix)) (hS : ck_St O σ W n0 K0 R0 M0 AL AS F L st n K R M) (hk : ck_On O X LX σ mi d W n0 K0 R0 M0 (ck_Q O σ0 W n0 K0 R0 M0 outs) k) (h : ck_j O lx XF E mi d n0 W outs bc bs pc AL AS n F k (.ldc_w ix) = true) : gm_Wp X LX d bc bs mi pc L st n K R M (ck_Q O σ0 W n0 K0 R0 M0 outs) := by
  obtain ⟨f1, f2, f3, f4, f5⟩ := hS
  unfold ck_j at h
  dsimp only at h
  cases hv : gm_ild (gm_ow mi) ix with
  | some q =>
    rw [hv] at h
    obtain ⟨q1, q2⟩ := q
    simp only [Bool.and_eq_true, beq_iff_eq] at h
    obtain ⟨⟨h1, h2⟩, h⟩ := h
    subst h1
    exact gm_sz (gm_p_ldci hat (.inr rfl) hv) (hk _ _ _ _ _ _ _ _ _ _ _ _ h ⟨f1, f2, ck_pi (ck_cvk_i h2) (ck_one_s _) (s := none) trivial f3, f4, f5⟩)
  | none =>
    rw [hv] at h
    dsimp only at h
    cases hw : gm_sld (gm_ow mi) ix with
    | some id =>
      rw [hw] at h
      exact gm_sz (gm_p_ldcs hat (.inr rfl) hw) (hk _ _ _ _ _ _ _ _ _ _ _ _ h ⟨f1, f2, ck_po f3, f4, f5⟩)
    | none => rw [hw] at h; cases h
theorem ck_j_ldcl {ix : Nat}  (hat : gm_at mi pc = some (.ldc2_w ix)) (hS : ck_St O σ W n0 K0 R0 M0 AL AS F L st n K R M) (hk : ck_On O X LX σ mi d W n0 K0 R0 M0 (ck_Q O σ0 W n0 K0 R0 M0 outs) k) (h : ck_j O lx XF E mi d n0 W outs bc bs pc AL AS n F k (.ldc2_w ix) = true) : gm_Wp X LX d bc bs mi pc L st n K R M (ck_Q O σ0 W n0 K0 R0 M0 outs) := by
  obtain ⟨f1, f2, f3, f4, f5⟩ := hS
  unfold ck_j at h
  dsimp only at h
  cases hv : gm_ild (gm_ow mi) ix with
  | some q =>
    rw [hv] at h
    obtain ⟨q1, q2⟩ := q
    simp only [Bool.and_eq_true, beq_iff_eq] at h
    obtain ⟨⟨h1, h2⟩, h⟩ := h
    subst h1
    exact gm_sz (gm_p_ldcl hat hv) (hk _ _ _ _ _ _ _ _ _ _ _ _ h ⟨f1, f2, ck_pl (ck_cvk_l h2) (ck_one_s _) f3, f4, f5⟩)
  | none => rw [hv] at h; cases h
theorem ck_j_stat {ix : Nat} (hE : ck_nmu O ∧ ck_OkE O X LX E) (hs : ∀ s, s < 100 → σ s = σ0 s) (hat : gm_at mi pc = some (.invokestatic ix)) (hS : ck_St O σ W n0 K0 R0 M0 AL AS F L st n K R M) (hk : ck_On O X LX σ mi d W n0 K0 R0 M0 (ck_Q O σ0 W n0 K0 R0 M0 outs) k) (h : ck_j O lx XF E mi d n0 W outs bc bs pc AL AS n F k (.invokestatic ix) = true) : gm_Wp X LX d bc bs mi pc L st n K R M (ck_Q O σ0 W n0 K0 R0 M0 outs) := by
  unfold ck_j at h
  dsimp only at h
  cases hc : gm_cal (gm_ow mi) ix with
  | none =>
    rw [hc] at h
    dsimp only at h
    rw [Bool.and_eq_true] at h
    obtain ⟨hac, h⟩ := h
    split at h
    · rename_i m s1 dp s2 k2 s3 sp s4 k1 s5 AS'
      split at h
      · rename_i q1 q2 e1 e2
        obtain ⟨f1, f2, f3, f4, f5⟩ := hS
        rw [Bool.and_eq_true] at h
        obtain ⟨h0, h⟩ := h
        simp only [Bool.and_eq_true, beq_iff_eq, decide_eq_true_eq] at h0
        obtain ⟨a1, a2, a3, a4, a5, a6, a7, a8, a9, a10, a11⟩ := h0
        obtain ⟨xm, st1, t1, im, gm1, -, g1⟩ := ck_qi f3
        subst t1
        obtain ⟨xd, st2, t2, id1, gd1, -, g2⟩ := ck_qi g1
        subst t2
        obtain ⟨st3, t3, g3⟩ := ck_qr g2
        subst t3
        obtain ⟨xs, st4, t4, is1, gs1, -, g4⟩ := ck_qi g3
        subst t4
        obtain ⟨st5, t5, g5⟩ := ck_qr g4
        subst t5
        obtain ⟨b1, b2⟩ := ck_kd_s f1 f4 e1
        obtain ⟨b3, b4⟩ := ck_kd_s f1 f4 e2
        have c1 := gm1.1
        have c2 := gm1.2.1
        have c3 := gd1.1
        have c4 := gd1.2.1
        have c5 := gs1.1
        have c6 := gs1.2.1
        have hg := gm_p_acopy (X := X) (LX := LX) (d := d) (L := L) (st := st5) (n := n) (K := K) (R := R) (M := M) (sp := xs) (dp := xd) (m := xm) hat hac b1 (by rw [b2]; exact a1) b3 (by rw [b4]; exact a2) (gm_ir_w is1) (gm_ir_w id1) (gm_ir_w im) (by omega) (by omega) (by omega) (by rw [b2]; omega) (by rw [b4]; omega) (ck_sum8_s g5 a9) a10
        refine gm_sz hg (hk _ _ _ _ _ _ _ _ _ _ _ _ h ⟨⟨f1.1, f1.2.1, fun a b hv => ?_, f1.2.2.2.1, O.2.2.hJ K K M _ (fun _ _ _ => rfl) (fun a b hv j j1 j2 => ?_) f1.2.2.2.2⟩, f2, ck_sh_s g5, ⟨f4.1, f4.2.1, fun p hp => ?_⟩, ⟨f5.1, f5.2.1, fun a b ha hb => ?_, f5.2.2.2⟩⟩)
        · obtain ⟨v1, v2⟩ := f1.2.2.1 a b hv
          refine ⟨v1, fun j j1 j2 => ?_⟩
          unfold gm_cpM
          split
          · rename_i q
            obtain ⟨rfl, q2, q3⟩ := q
            cases hr : ck_rd O F k1 sp.1 (sp.2.1 + m.2.1 - 1) with
            | none =>
              rw [hr] at a11
              rw [Bool.and_eq_true] at a11
              rw [List.isEmpty_iff.mp a11.1] at hv
              cases hv
            | some z =>
              rw [hr] at a11
              have z1 := (ck_rd_s f1 f4 hr).2 (xs + (j - xd)) (by omega) (by omega)
              dsimp only at a11
              rw [gm_tyw_def] at a11
              rw [Bool.and_eq_true] at a11
              have z2 := List.all_eq_true.mp a11.2 b hv
              simp only [Bool.or_eq_true, Bool.and_eq_true, decide_eq_true_eq] at z2
              have z3 := z1.2.1
              have z4 := z1.2.2.1
              refine ⟨z1.1, ?_, ?_⟩
              · rcases z2 with z2 | z2 | z2
                · omega
                · omega
                · omega
              · rcases z2 with z2 | z2 | z2
                · omega
                · omega
                · omega
          · exact v2 j j1 j2
        · unfold gm_cpM
          rw [if_neg]
          rintro ⟨rfl, q2, q3⟩
          cases hr : ck_rd O F k1 sp.1 (sp.2.1 + m.2.1 - 1) with
          | none =>
            rw [hr] at a11
            rw [Bool.and_eq_true] at a11
            rw [List.isEmpty_iff.mp a11.2] at hv
            cases hv
          | some z =>
            rw [hr] at a11
            dsimp only at a11
            rw [gm_tyw_def, gm_fpw_def] at a11
            rw [Bool.and_eq_true] at a11
            have z2 := List.all_eq_true.mp a11.1 b hv
            simp only [Bool.or_eq_true, decide_eq_true_eq] at z2
            omega
        · obtain ⟨r, hr, r1, r2, r3⟩ := ck_cws_s (ws := [(k2, dp.1, dp.2.1 + m.2.1 - 1)]) (l := F.2.2) hp
          have r4 := f4.2.2 r hr
          rw [r1, r2]
          refine ⟨r4.1, fun j j1 j2 => ?_⟩
          obtain ⟨r5, r6⟩ := r3 j j1 j2
          unfold gm_cpM
          rw [if_neg]
          · exact r4.2 j r5.1 r5.2
          · intro q
            exact r6 _ List.mem_cons_self ⟨q.1.symm, by dsimp only; omega, by dsimp only; omega⟩
        · rw [← f5.2.2.1 a b ha hb]
          unfold gm_cpM
          rw [if_neg]
          intro q
          rw [ck_okW_def] at a8
          simp only [Bool.or_eq_true, decide_eq_true_eq, List.any_eq_true, Bool.and_eq_true, beq_iff_eq] at a8
          rcases a8 with a8 | ⟨w, w1, w2, w3, w4⟩
          · have := q.1
            omega
          · exact hb w w1 ⟨w2.trans q.1.symm, by omega, by omega⟩
      · cases h
    · cases h
  | some q =>
    rw [hc] at h
    obtain ⟨kd, mj⟩ := q
    dsimp only at h
    by_cases e5 : kd = 5
    · subst e5
      rw [if_pos rfl, Bool.and_eq_true] at h
      obtain ⟨h2, h⟩ := h
      simp only [Bool.and_eq_true, decide_eq_true_eq, List.isEmpty_iff, Bool.not_eq_true', List.isEmpty_eq_false_iff] at h2
      obtain ⟨hh, hhj, e1, e3, e4, e5, e6⟩ := h2
      obtain ⟨t1, t2, t3, t4⟩ := ck_take (m := gm_na mj) hS.2.2.1
      refine ck_call_s (pc' := pc + 3) hs hE hS t2 t4 hk (fun d' bc' bs' a1 a2 a3 a4 => ?_) h
      have := gm_c_statX (bc := bc) (bs := bs) hat hc e1 hh hhj (as := (st.take (gm_na mj)).reverse) (st := st.drop (gm_na mj)) (by rw [List.length_reverse, t1]; exact e3) (t3 e4) (by rw [List.length_reverse, t1, e3]; exact e5) (ck_sum8_s t4 e6) a1 a2 a3 (gm_Wp_mono (fun o n K R M hq => gm_cont_H hh hq) a4)
      rw [List.reverse_reverse, List.take_append_drop] at this
      exact this
    rw [if_neg e5] at h
    rw [Bool.and_eq_true] at h
    obtain ⟨h0, h⟩ := h
    simp only [Bool.and_eq_true, beq_iff_eq, decide_eq_true_eq] at h0
    obtain ⟨rfl, h1⟩ := h0
    split at h
    · rename_i e
      subst e
      rcases AS with _ | ⟨⟨b | b | r | c, t⟩, _ | ⟨⟨a | a | r' | c', s⟩, AS⟩⟩ <;> (try cases h)
      obtain ⟨f1, f2, f3, f4, f5⟩ := hS
      obtain ⟨y, st, rfl, hy, hb, -, hst⟩ := ck_qi f3
      obtain ⟨x, st, rfl, hx, ha, -, hst⟩ := ck_qi hst
      dsimp only at h
      rw [Bool.and_eq_true] at h
      obtain ⟨a1, a2, -⟩ := ha
      obtain ⟨b1, b2, -⟩ := hb
      refine gm_sz (gm_p_max hat hc (gm_ir_w hx) (gm_ir_w hy) (ck_sum8_s hst h.1) h1) (hk _ _ _ _ _ _ _ _ _ _ _ _ h.2 ⟨f1, f2, ck_pi ?_ ⟨?_, ?_, ck_gt_none⟩ (s := none) trivial hst, f4, f5⟩)
      · unfold gm_ir at *; omega
      · dsimp only; split <;> omega
      · dsimp only; split <;> omega
    · split at h
      · rename_i e
        subst e
        rcases AS with _ | ⟨⟨b | b | r | c, t⟩, _ | ⟨⟨a | a | r' | c', s⟩, AS⟩⟩ <;> (try cases h)
        obtain ⟨f1, f2, f3, f4, f5⟩ := hS
        obtain ⟨y, st, rfl, hy, hb, -, hst⟩ := ck_qi f3
        obtain ⟨x, st, rfl, hx, ha, -, hst⟩ := ck_qi hst
        dsimp only at h
        rw [Bool.and_eq_true] at h
        obtain ⟨a1, a2, -⟩ := ha
        obtain ⟨b1, b2, -⟩ := hb
        refine gm_sz (gm_p_min hat hc (gm_ir_w hx) (gm_ir_w hy) (ck_sum8_s hst h.1) h1) (hk _ _ _ _ _ _ _ _ _ _ _ _ h.2 ⟨f1, f2, ck_pi ?_ ⟨?_, ?_, ck_gt_none⟩ (s := none) trivial hst, f4, f5⟩)
        · unfold gm_ir at *; omega
        · dsimp only; split <;> omega
        · dsimp only; split <;> omega
      · rw [Bool.and_eq_true] at h
        obtain ⟨h2, h⟩ := h
        simp only [Bool.and_eq_true, decide_eq_true_eq, List.isEmpty_iff] at h2
        obtain ⟨hh, e1, e3, e4, e5, e6⟩ := h2
        obtain ⟨t1, t2, t3, t4⟩ := ck_take (m := gm_na mj) hS.2.2.1
        refine ck_call_s (pc' := pc + 3) hs hE hS t2 t4 hk (fun d' bc' bs' a1 a2 a3 a4 => ?_) h
        have := gm_c_stat (bc := bc) (bs := bs) hat hc e1 hh (as := (st.take (gm_na mj)).reverse) (st := st.drop (gm_na mj)) (by rw [List.length_reverse, t1]; exact e3) (t3 e4) (by rw [List.length_reverse, t1, e3]; exact e5) (ck_sum8_s t4 e6) a1 a2 a3 (gm_Wp_mono (fun o n K R M hq => gm_cont_H hh hq) a4)
        rw [List.reverse_reverse, List.take_append_drop] at this
        exact this
theorem ck_j_virt {ix : Nat} (hE : ck_nmu O ∧ ck_OkE O X LX E) (hs : ∀ s, s < 100 → σ s = σ0 s) (hat : gm_at mi pc = some (.invokevirtual ix)) (hS : ck_St O σ W n0 K0 R0 M0 AL AS F L st n K R M) (hk : ck_On O X LX σ mi d W n0 K0 R0 M0 (ck_Q O σ0 W n0 K0 R0 M0 outs) k) (h : ck_j O lx XF E mi d n0 W outs bc bs pc AL AS n F k (.invokevirtual ix) = true) : gm_Wp X LX d bc bs mi pc L st n K R M (ck_Q O σ0 W n0 K0 R0 M0 outs) := by
  unfold ck_j at h
  dsimp only at h
  cases hc : gm_cal (gm_ow mi) ix with
  | none =>
    rw [hc] at h
    dsimp only at h
    cases hu : gm_una (gm_ow mi) ix with
    | none => rw [hu] at h; cases h
    | some na =>
      rw [hu] at h
      dsimp only at h
      obtain ⟨t1, t2, t3, t4⟩ := ck_take (m := na) hS.2.2.1
      split at h
      · rename_i r s AS' hd
        rw [hd] at t4
        obtain ⟨st', hst', hst⟩ := ck_qr t4
        cases hq : ck_kd O F r with
        | none => rw [hq] at h; cases h
        | some p =>
          rw [hq] at h
          dsimp only at h
          obtain ⟨g1, g2⟩ := ck_kd_s hS.1 hS.2.2.2.1 hq
          cases hup : gm_up (gm_ow mi) ix (p.1 - 4) with
          | none => rw [hup] at h; cases h
          | some mj =>
            rw [hup] at h
            dsimp only at h
            rw [Bool.and_eq_true] at h
            obtain ⟨h0, h⟩ := h
            simp only [Bool.and_eq_true, decide_eq_true_eq, List.isEmpty_iff] at h0
            obtain ⟨hh, e1, e2, e3, e4, e5, e6⟩ := h0
            refine ck_call_s (pc' := pc + 3) (vs := gm_vr r :: (st.take na).reverse) (as := (.inr (.inr (.inl r))) :: (AS.take na).reverse.map Prod.fst) hs hE hS ⟨_, _, rfl, rfl, t2⟩ hst hk (fun d' bc' bs' a1 a2 a3 a4 => ?_) h
            have := gm_c_up (bc := bc) (bs := bs) hat hup hh (as := (st.take na).reverse) (st := st') g1 (show (K r).1 = (p.1 - 4) + 4 by rw [g2]; omega) (by rw [List.length_reverse, t1, e2, e3]) (t3 e4) (by rw [List.length_reverse, t1, e2]; exact e5) (ck_sum8_s hst e6) a1 a2 a3 (gm_Wp_mono (fun o n K R M hq => gm_cont_H hh hq) a4)
            rw [List.reverse_reverse, ← hst', List.take_append_drop] at this
            exact this
      · cases h
  | some q =>
    rw [hc] at h
    obtain ⟨kd, mj⟩ := q
    dsimp only at h
    split at h
    · rename_i e82
      subst e82
      rcases AS with _ | ⟨⟨a | a | r | id, s⟩, AS⟩ <;> (try exact absurd (show false = true from h) Bool.false_ne_true)
      obtain ⟨f1, f2, f3, f4, f5⟩ := hS
      obtain ⟨st', rfl, hst⟩ := ck_qo f3
      dsimp only at h
      simp only [Bool.and_eq_true, beq_iff_eq, decide_eq_true_eq, List.isEmpty_iff] at h
      obtain ⟨⟨rfl, hh, hid, h8, hd⟩, h⟩ := h
      have h9 := (gm_chk_s hid).1.2
      have h7 : gm_ir (gm_slen id : Int) := by unfold gm_ir; omega
      have := gm_c_vstr (X := X) (LX := LX) (L := L) (n := n) (K := K) (R := R) (M := M) (Q := ck_Q O σ0 W n0 K0 R0 M0 outs) (bc := bc) (bs := bs) (d' := 1) (bc' := 0) (bs' := 0) (mj := 82) (as := []) (st := st') hat hc (by decide +kernel) hh hid (by decide +kernel) (by decide +kernel) (fun _ h => nomatch h) (by decide +kernel) (ck_sum8_s hst h8) hd (Nat.zero_le _) (Nat.zero_le _) (gm_w82 (Nat.le_refl _) hid (hk _ _ _ _ _ _ _ _ _ _ _ _ h ⟨f1, f2, ck_pi h7 (ck_one_s _) (s := none) trivial hst, f4, f5⟩))
      exact this
    split at h
    · rename_i e82 e84
      subst e84
      rcases AS with _ | ⟨⟨e | e | r | c, t⟩, _ | ⟨⟨a | a | r | id, s⟩, AS⟩⟩ <;> (try exact absurd (show false = true from h) Bool.false_ne_true)
      obtain ⟨f1, f2, f3, f4, f5⟩ := hS
      obtain ⟨i, st1, rfl, hi, he, -, hst1⟩ := ck_qi f3
      obtain ⟨st', rfl, hst⟩ := ck_qo hst1
      dsimp only at h
      simp only [Bool.and_eq_true, beq_iff_eq, decide_eq_true_eq, List.isEmpty_iff] at h
      obtain ⟨⟨rfl, hh, hid, h8, hd, hl, hr⟩, h⟩ := h
      have hi1 := he.1
      have hi2 := he.2.1
      have h9 := ((gm_chk_s hid).2 i.toNat (by omega)).2
      have h7 : gm_ir (gm_chv id i.toNat) := by unfold gm_ir; omega
      have h5 : ∀ v ∈ [gm_vi i], ¬ gm_sort v = 1 := fun v hv => by
        rw [List.mem_singleton.mp hv]
        simp [gm_sort]
      have h6 : ck_gi σ (0, 127, []) (gm_chv id i.toNat) := ⟨h9.1, by dsimp only; omega, ck_gt_none⟩
      have := gm_c_vstr (X := X) (LX := LX) (L := L) (n := n) (K := K) (R := R) (M := M) (Q := ck_Q O σ0 W n0 K0 R0 M0 outs) (bc := bc) (bs := bs) (d' := 3) (bc' := 0) (bs' := 0) (mj := 84) (as := [gm_vi i]) (st := st') hat hc (by decide +kernel) hh hid (by decide +kernel) (show 1 = gm_na 84 by decide +kernel) h5 (show 1 + 1 ≤ gm_ml 84 by decide +kernel) (ck_sum8_s hst h8) hd (Nat.zero_le _) (Nat.zero_le _) (gm_w84 (Nat.le_refl _) hid ⟨by omega, by omega⟩ (hk _ _ _ _ _ _ _ _ _ _ _ _ h ⟨f1, f2, ck_pi h7 h6 (s := none) trivial hst, f4, f5⟩))
      exact this
    rw [Bool.and_eq_true] at h
    obtain ⟨h0, h⟩ := h
    simp only [Bool.and_eq_true, beq_iff_eq, decide_eq_true_eq] at h0
    obtain ⟨rfl, e1, e2, e3, e4, e5⟩ := h0
    obtain ⟨t1, t2, t3, t4⟩ := ck_take (m := gm_na mj) hS.2.2.1
    split at h
    · rename_i r s AS' hd
      rw [hd] at t4
      obtain ⟨st', hst', hst⟩ := ck_qr t4
      rw [Bool.and_eq_true, Bool.and_eq_true] at h
      obtain ⟨⟨h1, h2⟩, h⟩ := h
      cases hq : ck_kd O F r with
      | none => rw [hq] at h2; cases h2
      | some p =>
        rw [hq] at h2
        simp only [beq_iff_eq] at h2
        obtain ⟨g1, g2⟩ := ck_kd_s hS.1 hS.2.2.2.1 hq
        refine ck_call_s (pc' := pc + 3) (vs := gm_vr r :: (st.take (gm_na mj)).reverse) (as := (.inr (.inr (.inl r))) :: (AS.take (gm_na mj)).reverse.map Prod.fst) hs hE hS ⟨_, _, rfl, rfl, t2⟩ hst hk (fun d' bc' bs' a1 a2 a3 a4 => ?_) h
        have hmj := (gm_cal_spec hc).1
        have := gm_c_virtH (bc := bc) (bs := bs) hat hc e1 (as := (st.take (gm_na mj)).reverse) (st := st') g1 (by rw [g2]; exact h2) e2 (gm_cio_spec hmj e2) (by rw [List.length_reverse, t1]; exact e3) (t3 e4) (by rw [List.length_reverse, t1, e3]; exact e5) (ck_sum8_s hst h1) a1 a2 a3 a4
        rw [List.reverse_reverse, ← hst', List.take_append_drop] at this
        exact this
    · cases h
theorem ck_j_spec {ix : Nat} (hE : ck_nmu O ∧ ck_OkE O X LX E) (hs : ∀ s, s < 100 → σ s = σ0 s) (hat : gm_at mi pc = some (.invokespecial ix)) (hS : ck_St O σ W n0 K0 R0 M0 AL AS F L st n K R M) (hk : ck_On O X LX σ mi d W n0 K0 R0 M0 (ck_Q O σ0 W n0 K0 R0 M0 outs) k) (h : ck_j O lx XF E mi d n0 W outs bc bs pc AL AS n F k (.invokespecial ix) = true) : gm_Wp X LX d bc bs mi pc L st n K R M (ck_Q O σ0 W n0 K0 R0 M0 outs) := by
  unfold ck_j at h
  dsimp only at h
  split at h
  · rename_i ho
    rcases AS with _ | ⟨⟨a | a | r | c, s⟩, AS⟩ <;> (try cases h)
    obtain ⟨f1, f2, f3, f4, f5⟩ := hS
    obtain ⟨st, rfl, hst⟩ := ck_qr f3
    dsimp only at h
    simp only [Bool.and_eq_true, decide_eq_true_eq] at h
    obtain ⟨⟨h1, h2, h3⟩, h⟩ := h
    exact gm_sz (gm_p_oinit hat ho h3 (ck_sum8_s hst h1) h2) (hk _ _ _ _ _ _ _ _ _ _ _ _ h ⟨f1, f2, hst, f4, f5⟩)
  · cases hc : gm_cal (gm_ow mi) ix with
    | none => rw [hc] at h; cases h
    | some q =>
      rw [hc] at h
      obtain ⟨kd, mj⟩ := q
      dsimp only at h
      rw [Bool.and_eq_true] at h
      obtain ⟨h0, h⟩ := h
      simp only [Bool.and_eq_true, Bool.or_eq_true, beq_iff_eq, decide_eq_true_eq, List.isEmpty_iff] at h0
      obtain ⟨hh, e0, e1, e3, e4, e5⟩ := h0
      obtain ⟨t1, t2, t3, t4⟩ := ck_take (m := gm_na mj) hS.2.2.1
      split at h
      · rename_i r s AS' hd
        rw [hd] at t4
        obtain ⟨st', hst', hst⟩ := ck_qr t4
        rw [Bool.and_eq_true] at h
        obtain ⟨h2, h⟩ := h
        simp only [Bool.and_eq_true, decide_eq_true_eq] at h2
        obtain ⟨h1, h3⟩ := h2
        refine ck_call_s (pc' := pc + 3) (vs := gm_vr r :: (st.take (gm_na mj)).reverse) (as := (.inr (.inr (.inl r))) :: (AS.take (gm_na mj)).reverse.map Prod.fst) hs hE hS ⟨_, _, rfl, rfl, t2⟩ hst hk (fun d' bc' bs' a1 a2 a3 a4 => ?_) h
        have := gm_c_init (bc := bc) (bs := bs) hat hc e0 e1 hh (as := (st.take (gm_na mj)).reverse) (st := st') h3 (by rw [List.length_reverse, t1]; exact e3) (t3 e4) (by rw [List.length_reverse, t1, e3]; exact e5) (ck_sum8_s hst h1) a1 a2 a3 (gm_Wp_mono (fun o n K R M hq => gm_cont_H hh hq) a4)
        rw [List.reverse_reverse, ← hst', List.take_append_drop] at this
        exact this
      · cases h
theorem ck_j_iret  (hs : ∀ s, s < 100 → σ s = σ0 s) (hat : gm_at mi pc = some (.ireturn)) (hS : ck_St O σ W n0 K0 R0 M0 AL AS F L st n K R M) (hk : ck_On O X LX σ mi d W n0 K0 R0 M0 (ck_Q O σ0 W n0 K0 R0 M0 outs) k) (h : ck_j O lx XF E mi d n0 W outs bc bs pc AL AS n F k (.ireturn) = true) : gm_Wp X LX d bc bs mi pc L st n K R M (ck_Q O σ0 W n0 K0 R0 M0 outs) := by
  unfold ck_j at h
  dsimp only at h
  split at h
  · rename_i a s
    obtain ⟨f1, f2, f3, f4, f5⟩ := hS
    obtain ⟨x, st, rfl, hx, ha, hsx, hst⟩ := ck_qi f3
    cases hst
    split at h
    · rename_i e
      cases hg : ck_sgn a s with
      | false =>
        rw [hg] at h
        exact gm_r_int hat (.inl e) (ck_end_s (how := .inr (some (.inl a))) hs f1 f4 f5 ⟨x, rfl, hx, ha⟩ h)
      | true =>
        rw [hg] at h
        have h : (ck_br .lt a s (ck_one 0) none AL F (fun _ F => ck_end O outs (.inr (some (.inl (ck_rf .lt a (ck_one 0))))) n F) && ck_br .ge a s (ck_one 0) none AL F (fun _ F => ck_end O outs (.inr (some (.inl (ck_rf .ge a (ck_one 0))))) n F)) = true := h
        rw [Bool.and_eq_true] at h
        have hS0 : ck_St O σ W n0 K0 R0 M0 AL [] F L [] n K R M := ⟨f1, f2, rfl, f4, f5⟩
        by_cases hx0 : x < 0
        · exact ck_br_s (c := .lt) hS0 hx ha hsx ⟨by decide, by decide⟩ (ck_one_s 0) (t := none) trivial (show gm_cm .lt x 0 from hx0) h.1 (fun AL F hq hS => gm_r_int hat (.inl e) (ck_end_s (how := .inr (some (.inl (ck_rf .lt a (ck_one 0))))) hs hS.1 hS.2.2.2.1 hS.2.2.2.2 ⟨x, rfl, hx, ck_rf_s ha (ck_one_s 0) (show gm_cm .lt x 0 from hx0)⟩ hq))
        · exact ck_br_s (c := .ge) hS0 hx ha hsx ⟨by decide, by decide⟩ (ck_one_s 0) (t := none) trivial (show gm_cm .ge x 0 by show (0 : Int) ≤ x; omega) h.2 (fun AL F hq hS => gm_r_int hat (.inl e) (ck_end_s (how := .inr (some (.inl (ck_rf .ge a (ck_one 0))))) hs hS.1 hS.2.2.2.1 hS.2.2.2.2 ⟨x, rfl, hx, ck_rf_s ha (ck_one_s 0) (show gm_cm .ge x 0 by show (0 : Int) ≤ x; omega)⟩ hq))
    · rename_i e
      simp only [Bool.and_eq_true, decide_eq_true_eq] at h
      have := ha.1
      have := ha.2.1
      exact gm_r_int hat (.inr ⟨e, by omega⟩) (ck_end_s (how := .inr (some (.inl a))) hs f1 f4 f5 ⟨x, rfl, hx, ha⟩ h.2)
    · cases h
  · cases h
theorem ck_j_vret  (hs : ∀ s, s < 100 → σ s = σ0 s) (hat : gm_at mi pc = some (.return_)) (hS : ck_St O σ W n0 K0 R0 M0 AL AS F L st n K R M) (hk : ck_On O X LX σ mi d W n0 K0 R0 M0 (ck_Q O σ0 W n0 K0 R0 M0 outs) k) (h : ck_j O lx XF E mi d n0 W outs bc bs pc AL AS n F k (.return_) = true) : gm_Wp X LX d bc bs mi pc L st n K R M (ck_Q O σ0 W n0 K0 R0 M0 outs) := by
  unfold ck_j at h
  dsimp only at h
  split at h
  · obtain ⟨f1, f2, f3, f4, f5⟩ := hS
    cases f3
    rw [Bool.and_eq_true, Option.isNone_iff_eq_none] at h
    exact gm_r_void hat h.1 (ck_end_s (how := .inr none) hs f1 f4 f5 trivial h.2)
  · cases h
theorem ck_j_aret  (hs : ∀ s, s < 100 → σ s = σ0 s) (hat : gm_at mi pc = some (.areturn)) (hS : ck_St O σ W n0 K0 R0 M0 AL AS F L st n K R M) (hk : ck_On O X LX σ mi d W n0 K0 R0 M0 (ck_Q O σ0 W n0 K0 R0 M0 outs) k) (h : ck_j O lx XF E mi d n0 W outs bc bs pc AL AS n F k (.areturn) = true) : gm_Wp X LX d bc bs mi pc L st n K R M (ck_Q O σ0 W n0 K0 R0 M0 outs) := by
  unfold ck_j at h
  dsimp only at h
  split at h
  · rename_i r s
    obtain ⟨f1, f2, f3, f4, f5⟩ := hS
    obtain ⟨st, rfl, hst⟩ := ck_qr f3
    cases hst
    split at h
    · rename_i e
      exact gm_r_ref hat (.inl ⟨_, e⟩) (ck_end_s (how := .inr (some (.inr (.inr (.inl r))))) hs f1 f4 f5 rfl h)
    · rename_i e
      exact gm_r_ref hat (.inr ⟨_, e⟩) (ck_end_s (how := .inr (some (.inr (.inr (.inl r))))) hs f1 f4 f5 rfl h)
    · cases h
  · cases h
end CM
end
/-! 26.cg -/
section
/-! THE CHECKER is right. -/
section CG
variable {O : gm_Or} {X : Int → Int} {LX : Nat} {lx : Option Nat} {XF : List (Int × Int × ck_I)} {E : List (Nat × List ck_Sum)} {mi d n0 : Nat} {W : List (Nat × Int × Int) × List (Nat × Int)} {outs : List ck_Oc} {bc bs pc : Nat} {L : gm_L} {st : List gm_V} {n : Nat} {K : gm_K} {R : gm_R} {M : gm_M} {AL : ck_AL} {AS : ck_AS} {F : ck_F} {σ σ0 : Nat → Int} {K0 : gm_K} {R0 : gm_R} {M0 : gm_M} {k : Nat → Nat → Nat → ck_AL → ck_AS → Nat → ck_F → Bool}
theorem ck_j_s {i : Instr} (hE : ck_nmu O ∧ ck_OkE O X LX E) (hX : ck_OkX σ X XF) (hlx : ∀ l, lx = some l → l = LX) (hs : ∀ s, s < 100 → σ s = σ0 s) (hat : gm_at mi pc = some i) (hS : ck_St O σ W n0 K0 R0 M0 AL AS F L st n K R M) (hk : ck_On O X LX σ mi d W n0 K0 R0 M0 (ck_Q O σ0 W n0 K0 R0 M0 outs) k) (h : ck_j O lx XF E mi d n0 W outs bc bs pc AL AS n F k i = true) : gm_Wp X LX d bc bs mi pc L st n K R M (ck_Q O σ0 W n0 K0 R0 M0 outs) := by
  cases i
  case ineg => exact ck_j_ineg hat hS hk h
  case i2b => exact ck_j_i2b hat hS hk h
  case i2l => exact ck_j_i2l hat hS hk h
  case l2i => exact ck_j_l2i hat hS hk h
  case lcmp => exact ck_j_lcmp hat hS hk h
  case idiv => exact ck_j_idiv hat hS hk h
  case irem => exact ck_j_irem hat hS hk h
  case dup => exact ck_j_dup hat hS hk h
  case pop => exact ck_j_pop hat hS hk h
  case dup2 => exact ck_j_dup2 hat hS hk h
  case iinc => exact ck_j_iinc hat hS hk h
  case goto => exact ck_j_goto hat hS hk h
  case ifCond => exact ck_j_if hat hS hk h
  case if_icmp => exact ck_j_ic hat hS hk h
  case ifnull => exact ck_j_ifnull hat hS hk h
  case ifnonnull => exact ck_j_ifnonnull hat hS hk h
  case tableswitch => exact ck_j_sw hat hS hk h
  case getfield => exact ck_j_get hat hS hk h
  case putfield => exact ck_j_put hat hS hk h
  case iaload => exact ck_j_iald hX hlx hat hS hk h
  case baload => exact ck_j_bald hat hS hk h
  case laload => exact ck_j_lald hat hS hk h
  case aaload => exact ck_j_aald hat hS hk h
  case iastore => exact ck_j_iast hat hS hk h
  case bastore => exact ck_j_bast hat hS hk h
  case lastore => exact ck_j_last hat hS hk h
  case aastore => exact ck_j_aast hat hS hk h
  case arraylength => exact ck_j_alen hlx hat hS hk h
  case new => exact ck_j_new hs hat hS hk h
  case newarray => exact ck_j_newa hat hS hk h
  case anewarray => exact ck_j_anew hat hS hk h
  case ldc => exact ck_j_ldc hat hS hk h
  case ldc_w => exact ck_j_ldc_w hat hS hk h
  case ldc2_w => exact ck_j_ldcl hat hS hk h
  case invokestatic => exact ck_j_stat hE hs hat hS hk h
  case invokevirtual => exact ck_j_virt hE hs hat hS hk h
  case invokespecial => exact ck_j_spec hE hs hat hS hk h
  case ireturn => exact ck_j_iret hs hat hS hk h
  case return_ => exact ck_j_vret hs hat hS hk h
  case areturn => exact ck_j_aret hs hat hS hk h
  all_goals exact absurd (show false = true from h) Bool.false_ne_true
theorem ck_fk_s {i : Instr} {a b : ck_I} (h : ck_fk i a b = true) : ck_sg b = true := by
  unfold ck_fk at h
  split at h
  · rw [Bool.and_eq_true] at h; exact h.1
  · cases h
theorem ck_i_s {i : Instr} (hE : ck_nmu O ∧ ck_OkE O X LX E) (hX : ck_OkX σ X XF) (hlx : ∀ l, lx = some l → l = LX) (hs : ∀ s, s < 100 → σ s = σ0 s) (hat : gm_at mi pc = some i) (hS : ck_St O σ W n0 K0 R0 M0 AL AS F L st n K R M) (hk : ck_On O X LX σ mi d W n0 K0 R0 M0 (ck_Q O σ0 W n0 K0 R0 M0 outs) k) (h : ck_i O lx XF E mi d n0 W outs bc bs pc AL AS n F k i = true) : gm_Wp X LX d bc bs mi pc L st n K R M (ck_Q O σ0 W n0 K0 R0 M0 outs) := by
  unfold ck_i at h
  obtain ⟨f1, f2, f3, f4, f5⟩ := _root_.id hS
  cases hc : gm_const i with
  | some v =>
    rw [hc] at h
    dsimp only at h
    rw [Bool.and_eq_true] at h
    exact gm_sz (gm_p_const hat hc) (hk _ _ _ _ _ _ _ _ _ _ _ _ h.2 ⟨f1, f2, ⟨v, _, rfl, ⟨ck_cv_s h.1, trivial⟩, f3⟩, f4, f5⟩)
  | none =>
  rw [hc] at h
  dsimp only at h
  cases hl : gm_load i with
  | some q =>
    rw [hl] at h
    obtain ⟨sr, j⟩ := q
    dsimp only at h
    split at h
    · rename_i a hj
      rw [Bool.and_eq_true, beq_iff_eq] at h
      obtain ⟨u, hu1, hu2⟩ := f2.2 j a hj
      exact gm_sz (gm_p_load hat hl hu1 (by rw [ck_so_s hu2]; exact h.1)) (hk _ _ _ _ _ _ _ _ _ _ _ _ h.2 ⟨f1, f2, ⟨u, _, rfl, ⟨hu2, u, hu1, Or.inl ⟨rfl, rfl⟩⟩, f3⟩, f4, f5⟩)
    · cases h
  | none =>
  rw [hl] at h
  dsimp only at h
  cases ht : gm_stor i with
  | some q =>
    rw [ht] at h
    obtain ⟨sr, j⟩ := q
    dsimp only at h
    rcases AS with _ | ⟨q, AS⟩
    · cases h
    · obtain ⟨v, st', e0, hso, hv, hst⟩ := ck_q1 f3
      subst e0
      dsimp only at h
      simp only [Bool.and_eq_true, beq_iff_eq, decide_eq_true_eq] at h
      exact gm_sz (gm_p_stor hat ht (by rw [← f2.1]; exact h.1.2) (by rw [hso]; exact h.1.1)) (hk _ _ _ _ _ _ _ _ _ _ _ _ h.2 ⟨f1, ck_lst_s f2 hv.1, ck_sl_s hst, f4, f5⟩)
  | none =>
  rw [ht] at h
  dsimp only at h
  cases hb : gm_bin i with
  | some f =>
    rw [hb] at h
    rcases AS with _ | ⟨⟨b | b | r | c, t⟩, _ | ⟨⟨a | a | r' | c', s⟩, AS⟩⟩ <;> (try cases h)
    obtain ⟨y, st, rfl, hy, hb2, hsy, hst⟩ := ck_qi f3
    obtain ⟨x, st, rfl, hx, ha, hsx, hst⟩ := ck_qi hst
    dsimp only at h
    refine gm_sz (gm_p_bin hat hb) (ck_nv ?_)
    cases hk1 : ck_fk i a b with
    | true =>
      rw [hk1] at h
      have e1 := ck_sg_s hb2 (ck_fk_s hk1)
      have h2 := List.all_eq_true.mp h (x - a.1).toNat (List.mem_range.mpr (by have := ha.1; have := ha.2.1; omega))
      rw [show a.1 + ((x - a.1).toNat : Int) = x by have := ha.1; omega, ← e1] at h2
      exact hk _ _ _ _ _ _ _ _ _ _ _ _ h2 ⟨f1, ck_qL_s ⟨Int.le_refl _, Int.le_refl _⟩ ha f2, ck_pi (ck_w_ir _) (ck_one_s _) (s := none) trivial hst, ck_qF_s ⟨Int.le_refl _, Int.le_refl _⟩ ha f4, f5⟩
    | false =>
      rw [hk1] at h
      cases hk2 : ck_fk i b a with
      | true =>
        rw [hk2] at h
        have e1 := ck_sg_s ha (ck_fk_s hk2)
        have h2 := List.all_eq_true.mp h (y - b.1).toNat (List.mem_range.mpr (by have := hb2.1; have := hb2.2.1; omega))
        rw [show b.1 + ((y - b.1).toNat : Int) = y by have := hb2.1; omega, ← e1] at h2
        exact hk _ _ _ _ _ _ _ _ _ _ _ _ h2 ⟨f1, ck_qL_s ⟨Int.le_refl _, Int.le_refl _⟩ hb2 f2, ck_pi (ck_w_ir _) (ck_one_s _) (s := none) trivial hst, ck_qF_s ⟨Int.le_refl _, Int.le_refl _⟩ hb2 f4, f5⟩
      | false =>
        rw [hk2] at h
        exact hk _ _ _ _ _ _ _ _ _ _ _ _ h ⟨f1, f2, ck_pi (ck_w_ir _) (ck_bo_s hb ha hb2 hx hy) (s := ck_lks O (ck_sb i a s b t)) (ck_lks_s f1 (ck_sb_s hb ha hsx hb2 hsy)) hst, f4, f5⟩
  | none =>
  rw [hb] at h
  dsimp only at h
  cases hlb : gm_lbin i with
  | some f =>
    rw [hlb] at h
    rcases AS with _ | ⟨⟨b | b | r | c, t⟩, _ | ⟨⟨a | a | r' | c', s⟩, AS⟩⟩ <;> (try cases h)
    obtain ⟨y, st, rfl, hy, hb2, hst⟩ := ck_ql f3
    obtain ⟨x, st, rfl, hx, ha, hst⟩ := ck_ql hst
    exact gm_sz (gm_p_lbin hat hlb) (ck_nv6 (hk _ _ _ _ _ _ _ _ _ _ _ _ h ⟨f1, f2, ck_pl (ck_r6_w _) (ck_tp6_s (ck_r6_w _)) hst, f4, f5⟩))
  | none =>
  rw [hlb] at h
  dsimp only at h
  cases hls : gm_lsh i with
  | some f =>
    rw [hls] at h
    rcases AS with _ | ⟨⟨b | b | r | c, t⟩, _ | ⟨⟨a | a | r' | c', s⟩, AS⟩⟩ <;> (try cases h)
    obtain ⟨y, st, rfl, hy, hb2, -, hst⟩ := ck_qi f3
    obtain ⟨x, st, rfl, hx, ha, hst⟩ := ck_ql hst
    exact gm_sz (gm_p_lsh hat hls) (ck_nv6 (hk _ _ _ _ _ _ _ _ _ _ _ _ h ⟨f1, f2, ck_pl (ck_r6_w _) (ck_tp6_s (ck_r6_w _)) hst, f4, f5⟩))
  | none =>
  rw [hls] at h
  dsimp only at h
  exact ck_j_s hE hX hlx hs hat hS hk h
/-! another meaning of one name -/
def ck_us (σ : Nat → Int) (s : Nat) (v : Int) : Nat → Int := fun t => if t = s then v else σ t
theorem ck_nI_s {s : Nat} {v x : Int} {a : ck_I} (h : ck_nI s a = true) : ck_gi (ck_us σ s v) a x ↔ ck_gi σ a x := by
  have key : ck_gt (ck_us σ s v) a.2.2 x ↔ ck_gt σ a.2.2 x := by
    have h0 : ∀ q ∈ a.2.2, (ck_g1 (ck_us σ s v) q x ↔ ck_g1 σ q x) := by
      intro q hq
      have h := List.all_eq_true.mp h q hq
      simp only [Bool.and_eq_true, Bool.not_eq_true', beq_eq_false_iff_ne, ne_eq] at h
      have e : ck_us σ s v q.1 = σ q.1 := by unfold ck_us; rw [if_neg h.1]
      have e2 : 1000000 ≤ q.1 → ck_us σ s v (q.1 - 1000000) = σ (q.1 - 1000000) := by intro h9; unfold ck_us; rw [if_neg (by omega)]
      unfold ck_g1
      rw [e]
      constructor
      · exact fun h2 => ⟨h2.1, fun h9 => by rw [← e2 h9]; exact h2.2 h9⟩
      · exact fun h2 => ⟨h2.1, fun h9 => by rw [e2 h9]; exact h2.2 h9⟩
    exact ⟨fun h1 q hq => (h0 q hq).mp (h1 q hq), fun h1 q hq => (h0 q hq).mpr (h1 q hq)⟩
  unfold ck_gi
  rw [key]
theorem ck_nA_s {s : Nat} {v : Int} {a : ck_A} {u : gm_V} (h : ck_nA s a = true) : ck_ga (ck_us σ s v) a u ↔ ck_ga σ a u := by
  rcases a with a | a | j | j
  · constructor <;> rintro ⟨x, h1, h2, h3⟩ <;> exact ⟨x, h1, h2, by first | exact (ck_nI_s h).mp h3 | exact (ck_nI_s h).mpr h3⟩
  · constructor <;> rintro ⟨x, h1, h2, h3⟩ <;> exact ⟨x, h1, h2, by first | exact (ck_nI_s h).mp h3 | exact (ck_nI_s h).mpr h3⟩
  · exact Iff.rfl
  · exact Iff.rfl
theorem ck_nL_s {s : Nat} {v : Int} (h : ck_nL s AL = true) : ck_gl (ck_us σ s v) AL L ↔ ck_gl σ AL L := by
  have h1 : ∀ (j : Nat) (b : ck_A), AL[j]? = some (some b) → ck_nA s b = true := fun j b hb => List.all_eq_true.mp h _ (List.mem_of_getElem? hb)
  constructor
  · intro hl
    refine ⟨hl.1, fun j b hb => ?_⟩
    obtain ⟨u, h2, h3⟩ := hl.2 j b hb
    exact ⟨u, h2, (ck_nA_s (h1 j b hb)).mp h3⟩
  · intro hl
    refine ⟨hl.1, fun j b hb => ?_⟩
    obtain ⟨u, h2, h3⟩ := hl.2 j b hb
    exact ⟨u, h2, (ck_nA_s (h1 j b hb)).mpr h3⟩
theorem ck_nF_s {s : Nat} {v : Int} (h : ck_nF s F = true) : ck_gf (ck_us σ s v) F n K R M ↔ ck_gf σ F n K R M := by
  constructor
  · intro hf
    refine ⟨hf.1, hf.2.1, fun q hq => ⟨(hf.2.2 q hq).1, fun j h1 h2 => ?_⟩⟩
    have h3 := (hf.2.2 q hq).2 j h1 h2
    exact ⟨h3.1, (ck_nI_s (List.all_eq_true.mp h q hq)).mp h3.2⟩
  · intro hf
    refine ⟨hf.1, hf.2.1, fun q hq => ⟨(hf.2.2 q hq).1, fun j h1 h2 => ?_⟩⟩
    have h3 := (hf.2.2 q hq).2 j h1 h2
    exact ⟨h3.1, (ck_nI_s (List.all_eq_true.mp h q hq)).mpr h3.2⟩
/-- what stands at the place of a counter -/
def ck_lv (c : Nat ⊕ (Nat × Int)) (L : gm_L) (M : gm_M) (v : Int) : Prop := match c with
  | .inl j => L[j]? = some (some (gm_vi v))
  | .inr q => M q.1 q.2 = v
theorem ck_loc_s {c : Nat ⊕ (Nat × Int)} {a : ck_I} (hF : gm_Fx O n K R M) (hl : ck_gl σ AL L) (hf : ck_gf σ F n K R M) (h : ck_loc O c AL F = some a) : ∃ v, ck_lv c L M v ∧ gm_ir v ∧ ck_gi σ a v := by
  unfold ck_loc at h
  split at h
  · rename_i j
    split at h
    · rename_i b hb
      cases h
      obtain ⟨u, h1, x, rfl, h2, h3⟩ := hl.2 j _ hb
      exact ⟨x, h1, h2, h3⟩
    · cases h
  · rename_i q
    obtain ⟨-, h1⟩ := ck_rd_s hF hf h
    have h2 := h1 q.2 (Int.le_refl _) (Int.le_refl _)
    exact ⟨_, rfl, h2.1, h2.2⟩
theorem ck_lv_eq {c : Nat ⊕ (Nat × Int)} {v w : Int} (h1 : ck_lv c L M v) (h2 : ck_lv c L M w) : v = w := by
  rcases c with j | q
  · have h3 : some (some (gm_vi v)) = some (some (gm_vi w)) := (show L[j]? = _ from h1).symm.trans h2
    cases h3
    rfl
  · exact (show M q.1 q.2 = v from h1).symm.trans h2
theorem ck_b_s {c : Nat ⊕ (Nat × Int)} {s : Nat} {a : ck_I} {v : Int} (hF : gm_Fx O n K R M) (hs6 : s < 1000000) (hl : ck_gl σ AL L) (hf : ck_gf σ F n K R M) (hc : ck_loc O c AL F = some a) (hv : ck_lv c L M v) (hsv : σ s = v) : ck_gl σ (ck_bL c s a AL) L ∧ ck_gf σ (ck_bF c s a F) n K R M := by
  obtain ⟨w, h1, h2, h3⟩ := ck_loc_s hF hl hf hc
  have := ck_lv_eq h1 hv
  subst this
  have h4 : ck_gi σ (a.1, a.2.1, (s, 0) :: a.2.2) w := ⟨h3.1, h3.2.1, fun q hq => by
    rcases List.mem_cons.mp hq with rfl | hq
    · exact ⟨fun _ => by rw [hsv]; exact (Int.add_zero w).symm, fun e => absurd e (by dsimp only; omega)⟩
    · exact h3.2.2 q hq⟩
  unfold ck_bL ck_bF
  split
  · rename_i j
    refine ⟨⟨by simp [hl.1], fun i b hb => ?_⟩, hf⟩
    rw [List.getElem?_set] at hb
    by_cases e : j = i
    · rw [if_pos e] at hb
      split at hb
      · cases hb
        rw [← e]
        exact ⟨gm_vi w, h1, w, rfl, h2, h4⟩
      · cases hb
    · rw [if_neg e] at hb
      exact hl.2 i b hb
  · rename_i q
    refine ⟨hl, hf.1, hf.2.1, fun p hp => ?_⟩
    rcases List.mem_cons.mp hp with rfl | hp
    · obtain ⟨h5, -⟩ := ck_rd_s hF hf hc
      refine ⟨h5, fun j h6 h7 => ?_⟩
      have h8 : j = q.2 := Int.le_antisymm h7 h6
      subst h8
      have h9 : M q.1 q.2 = w := h1
      dsimp only
      rw [h9]
      exact ⟨h2, h4⟩
    · exact hf.2.2 p hp
/-- what is known of a cut on the way -/
def ck_Hy (O : gm_Or) (X : Int → Int) (LX mi d : Nat) (W : List (Nat × Int × Int) × List (Nat × Int)) (n0 : Nat) (K0 : gm_K) (R0 : gm_R) (M0 : gm_M) (Q : gm_Q) (σ : Nat → Int) (h : ck_H) : Prop :=
  ∀ (v : Int), ((h.2.1.2.2.1 = 0 ∨ 2000000 ≤ h.2.1.2.2.1) ∨ if h.2.1.2.2.2.2 = true then σ h.2.1.2.2.1 < v else v < σ h.2.1.2.2.1) → ∀ (bc bs : Nat) (L : gm_L) (K : gm_K) (R : gm_R) (M : gm_M), h.2.2.1 ≤ bc → h.2.2.2.1 ≤ bs → ck_St O σ W n0 K0 R0 M0 h.2.1.1 [] h.2.1.2.1 L [] h.2.2.2.2 K R M → ck_lv h.2.1.2.2.2.1 L M v → gm_Wp X LX d bc bs mi h.1 L [] h.2.2.2.2 K R M Q
theorem ck_Hy_us {Q : gm_Q} {h : ck_H} {s : Nat} {v : Int} (hs : ¬ h.2.1.2.2.1 = s) (h1 : ck_nL s h.2.1.1 = true) (h2 : ck_nF s h.2.1.2.1 = true) (hy : ck_Hy O X LX mi d W n0 K0 R0 M0 Q σ h) : ck_Hy O X LX mi d W n0 K0 R0 M0 Q (ck_us σ s v) h := by
  intro w hw bc bs L K R M a1 a2 a3 a4
  have e : ck_us σ s v h.2.1.2.2.1 = σ h.2.1.2.2.1 := by unfold ck_us; rw [if_neg hs]
  rw [e] at hw
  obtain ⟨f1, f2, f3, f4, f5⟩ := a3
  exact hy w hw bc bs L K R M a1 a2 ⟨f1, (ck_nL_s h1).mp f2, by cases f3; rfl, (ck_nF_s h2).mp f4, f5⟩ a4
theorem ck_cu_s {cuts : List (Nat × ck_C)} (h : ck_cu cuts = true) {p : Nat} {c c' : ck_C} (h1 : (p, c) ∈ cuts) (h2 : (p, c') ∈ cuts) (h3 : c.2.2.1 = c'.2.2.1) : c = c' := by
  have h4 := of_decide_eq_true (List.all_eq_true.mp h _ h1)
  have m1 : (p, c) ∈ cuts.filter fun q => q.1 == (p, c).1 && q.2.2.2.1 == (p, c).2.2.2.1 := List.mem_filter.mpr ⟨h1, by simp⟩
  have m2 : (p, c') ∈ cuts.filter fun q => q.1 == (p, c).1 && q.2.2.2.1 == (p, c).2.2.2.1 := List.mem_filter.mpr ⟨h2, by simp [h3]⟩
  revert h4 m1 m2
  generalize (cuts.filter fun q => q.1 == (p, c).1 && q.2.2.2.1 == (p, c).2.2.2.1) = l
  intro h4 m1 m2
  rcases l with _ | ⟨x, _ | ⟨y, l⟩⟩
  · cases m1
  · have e1 := List.mem_singleton.mp m1
    have e2 := List.mem_singleton.mp m2
    exact (Prod.mk.inj (e1.trans e2.symm)).2
  · simp at h4
theorem ck_go_s {cuts : List (Nat × ck_C)} (hcu : ck_cu cuts = true) (hE : ck_nmu O ∧ ck_OkE O X LX E) (hX : ∀ σ, ck_OkX σ X XF) (hlx : ∀ l, lx = some l → l = LX) : ∀ (f : Nat) (fst : Bool) (ch : List ck_H) (bc bs pc : Nat) (AL : ck_AL) (AS : ck_AS) (n : Nat) (F : ck_F) (σ : Nat → Int) (L : gm_L) (st : List gm_V) (K : gm_K) (R : gm_R) (M : gm_M), (∀ s, s < 100 → σ s = σ0 s) → (∀ h ∈ ch, (h.1, h.2.1) ∈ cuts ∧ ck_Hy O X LX mi d W n0 K0 R0 M0 (ck_Q O σ0 W n0 K0 R0 M0 outs) σ h) → ck_St O σ W n0 K0 R0 M0 AL AS F L st n K R M → ck_go O lx XF E mi d n0 W outs cuts f fst ch bc bs pc AL AS n F = true → gm_Wp X LX d bc bs mi pc L st n K R M (ck_Q O σ0 W n0 K0 R0 M0 outs) := by
  intro f
  induction f with
  | zero => intro fst ch bc bs pc AL AS n F σ L st K R M _ _ _ h; cases h
  | succ f ih =>
    intro fst ch bc bs pc AL AS n F σ L st K R M hs hch hS h
    unfold ck_go at h
    cases hcut : (if fst = true then none else cuts.find? fun q => q.1 == pc && (ck_leL AL q.2.1 && ck_leF O F q.2.2.1)) with
    | none =>
      rw [hcut] at h
      dsimp only at h
      cases hat : gm_at mi pc with
      | none => rw [hat] at h; cases h
      | some i =>
        rw [hat] at h
        dsimp only at h
        rw [ck_d_eq] at h
        exact ck_i_s hE (hX σ) hlx hs hat hS (fun bc bs pc AL AS n F L st K R M hk hS => ih false ch bc bs pc AL AS n F σ L st K R M hs hch hS hk) h
    | some qc =>
      obtain ⟨pc9, c⟩ := qc
      rw [hcut] at h
      dsimp only at h
      have hlk : (pc, c) ∈ cuts ∧ (ck_leL AL c.1 = true ∧ ck_leF O F c.2.1 = true) := by
        split at hcut
        · cases hcut
        · have h9 := List.find?_some hcut
          simp only [Bool.and_eq_true, beq_iff_eq] at h9
          have h8 := List.mem_of_find?_eq_some hcut
          rw [h9.1] at h8
          exact ⟨h8, h9.2⟩
      obtain ⟨hlk, h1, h2⟩ := hlk
      rw [Bool.and_eq_true, List.isEmpty_iff] at h
      obtain ⟨rfl, h⟩ := h
      obtain ⟨f1, f2, f3, f4, f5⟩ := hS
      cases f3
      have g2 := ck_leL_s h1 f2
      have g4 := ck_leF_s f1 f4 h2
      split at h
      · rename_i a a0 ha ha0
        obtain ⟨v, hv, hvi, hva⟩ := ck_loc_s f1 f2 f4 ha
        split at h
        · rename_i hc hfind
          have hm := List.mem_of_find?_eq_some hfind
          have hpc := List.find?_some hfind
          rw [Bool.and_eq_true, beq_iff_eq, beq_iff_eq] at hpc
          obtain ⟨hp1, hp2⟩ := hpc
          obtain ⟨hl2, hy⟩ := hch hc hm
          subst hp1
          have hp3 := ck_cu_s hcu hl2 hlk hp2
          subst hp3
          rw [Bool.and_eq_true] at h
          obtain ⟨h3, h4⟩ := h
          simp only [Bool.and_eq_true, beq_iff_eq, decide_eq_true_eq] at h3
          obtain ⟨rfl, h5, h6⟩ := h3
          rw [Bool.or_eq_true, Bool.or_eq_true, beq_iff_eq, decide_eq_true_eq] at h4
          rcases h4 with h4 | h4
          · exact hy v (.inl h4) bc bs L K R M h5 h6 ⟨f1, g2, rfl, g4, f5⟩ hv
          obtain ⟨q, ht, h4⟩ := List.any_eq_true.mp h4
          have hvq := hva.2.2 q ht
          refine hy v (.inr ?_) bc bs L K R M h5 h6 ⟨f1, g2, rfl, g4, f5⟩ hv
          simp only [Bool.or_eq_true, Bool.and_eq_true, beq_iff_eq, decide_eq_true_eq] at h4
          rcases h4 with ⟨h8, h9, h7⟩ | ⟨h8, h9, h10, h7⟩
          · have h11 := hvq.1 (by omega)
            rw [← h8, h11]
            split
            · rename_i e
              rw [if_pos e, decide_eq_true_eq] at h7
              omega
            · rename_i e
              rw [if_neg e, decide_eq_true_eq] at h7
              omega
          · have h11 := hvq.2 (by omega)
            have h12 : q.1 - 1000000 = hc.2.1.2.2.1 := by omega
            rw [h12] at h11
            rw [if_pos h10]
            omega
        · rw [Bool.and_eq_true] at h
          obtain ⟨h3, h⟩ := h
          simp only [Bool.and_eq_true, decide_eq_true_eq, List.all_eq_true, Bool.not_eq_true', beq_eq_false_iff_ne, ne_eq] at h3
          obtain ⟨h4, h5, h6, h7⟩ := h3
          -- by the counter
          have key : ∀ (m : Nat) (v : Int) (bc' bs' : Nat) (L : gm_L) (K : gm_K) (R : gm_R) (M : gm_M), (if c.2.2.2.2 = true then a0.2.1 - v else v - a0.1) < m → bc ≤ bc' → bs ≤ bs' → ck_St O σ W n0 K0 R0 M0 c.1 [] c.2.1 L [] n K R M → ck_lv c.2.2.2.1 L M v → gm_Wp X LX d bc' bs' mi pc L [] n K R M (ck_Q O σ0 W n0 K0 R0 M0 outs) := by
            intro m
            induction m with
            | zero =>
              intro v bc' bs' L K R M hm _ _ hS hv
              exfalso
              obtain ⟨w, w1, w2, w3⟩ := ck_loc_s hS.1 hS.2.1 hS.2.2.2.1 ha0
              have := ck_lv_eq w1 hv
              subst this
              have := w3.1
              have := w3.2.1
              split at hm <;> omega
            | succ m ihm =>
              intro v bc' bs' L K R M hm hb1 hb2 hS hv
              refine gm_Wp_wk (Nat.le_refl _) hb1 hb2 ?_
              obtain ⟨e1, e2, e3, e4, e5⟩ := hS
              have hsv : ck_us σ c.2.2.1 v c.2.2.1 = v := by unfold ck_us; rw [if_pos rfl]
              obtain ⟨b1, b2⟩ := ck_b_s e1 (s := c.2.2.1) h4.2 ((ck_nL_s (v := v) h6).mpr e2) ((ck_nF_s (v := v) h7).mpr e4) ha0 hv hsv
              refine ih true ((pc, c, bc, bs, n) :: ch) bc bs pc _ [] n _ (ck_us σ c.2.2.1 v) L [] K R M (fun s hs2 => ?_) (fun hc hm2 => ?_) ⟨e1, b1, rfl, b2, e5⟩ h
              · unfold ck_us
                rw [if_neg (by omega)]
                exact hs s hs2
              · rcases List.mem_cons.mp hm2 with rfl | hm2
                · refine ⟨hlk, ?_⟩
                  intro v' hv' bc'' bs'' L' K' R' M' a1 a2 a3 a4
                  obtain ⟨d1, d2, d3, d4, d5⟩ := a3
                  refine ihm v' bc'' bs'' L' K' R' M' ?_ a1 a2 ⟨d1, (ck_nL_s h6).mp d2, rfl, (ck_nF_s h7).mp d4, d5⟩ a4
                  dsimp only at hv'
                  replace hv' := hv'.resolve_left (by have := h4.1; have := h4.2; omega)
                  rw [hsv] at hv'
                  split at hm
                  · rename_i e
                    rw [if_pos e] at hv' ⊢
                    omega
                  · rename_i e
                    rw [if_neg e] at hv' ⊢
                    omega
                · obtain ⟨c1, c2⟩ := hch hc hm2
                  obtain ⟨c3, c4, c5⟩ := h5 hc hm2
                  exact ⟨c1, ck_Hy_us c3 c4 c5 c2⟩
          exact key ((if c.2.2.2.2 = true then a0.2.1 - v else v - a0.1).toNat + 1) v bc bs L K R M (by omega) (Nat.le_refl _) (Nat.le_refl _) ⟨f1, g2, rfl, g4, f5⟩ hv
      · cases h
theorem ck_ent : ∀ {as : List ck_A} {vs : List gm_V}, ck_gas σ as vs → as.length = vs.length ∧ ∀ (j : Nat) (b : ck_A), as[j]? = some b → ∃ u, vs[j]? = some u ∧ ck_ga σ b u := by
  intro as
  induction as with
  | nil => intro vs h; cases h; exact ⟨rfl, fun j b hb => by simp at hb⟩
  | cons a as ih =>
    intro vs h
    obtain ⟨v, ws, rfl, h1, h2⟩ := h
    obtain ⟨h3, h4⟩ := ih h2
    refine ⟨by simp [h3], fun j b hb => ?_⟩
    cases j with
    | zero =>
      simp only [List.getElem?_cons_zero, Option.some.injEq] at hb ⊢
      subst hb
      exact ⟨v, rfl, h1⟩
    | succ j =>
      simp only [List.getElem?_cons_succ] at hb ⊢
      exact h4 j b hb
/-- A METHOD that the checker has seen -/
theorem ck_ok_s {cuts : List (Nat × ck_C)} {f : Nat} {S : ck_Sum} (hE : ck_nmu O ∧ ck_OkE O X LX E) (hX : ∀ σ, ck_OkX σ X XF) (hlx : ∀ l, lx = some l → l = LX) (h : ck_ok O lx XF E mi cuts f S = true) : ck_Ok O X LX mi S := by
  intro d σ vs n K R M hd hn hvs _ hF hf
  unfold ck_ok at h
  simp only [Bool.and_eq_true, decide_eq_true_eq] at h
  obtain ⟨⟨h2, hcu⟩, h3⟩ := h
  subst hn
  obtain ⟨g1, g2⟩ := ck_ent hvs
  refine gm_Wp_wk hd (Nat.le_refl _) (Nat.le_refl _) (ck_go_s (σ0 := σ) hcu hE hX hlx f false [] _ _ 0 _ [] _ _ σ _ [] K R M (fun _ _ => rfl) (fun _ hm => nomatch hm) ⟨hF, ⟨?_, fun j b hb => ?_⟩, rfl, hf, ck_fr_0⟩ h3)
  · unfold gm_ent
    simp [g1]
  · unfold gm_ent
    rw [List.getElem?_append] at hb ⊢
    simp only [List.length_map] at hb ⊢
    split at hb
    · rename_i e
      rw [if_pos (by rw [← g1]; exact e)]
      rw [List.getElem?_map] at hb ⊢
      cases hq : S.2.2.1[j]? with
      | none => rw [hq] at hb; cases hb
      | some b' =>
        rw [hq] at hb
        cases hb
        obtain ⟨u, h4, h5⟩ := g2 j b hq
        exact ⟨u, by rw [h4]; rfl, h5⟩
    · exfalso
      have := List.mem_of_getElem? hb
      rw [List.mem_replicate] at this
      cases this.2
end CG
end
/-! 27.ce -/
section
/-! THE CHECKER: what its rows are put together with. -/
section CE
variable {O : gm_Or} {X : Int → Int} {LX : Nat}
theorem ck_S0 {mj : Nat} : ∀ S ∈ ([] : List ck_Sum), ck_Ok O X LX mj S := fun _ h => nomatch h
theorem ck_S1 {mj : Nat} {S : ck_Sum} {l : List ck_Sum} (h : ck_Ok O X LX mj S) (t : ∀ S ∈ l, ck_Ok O X LX mj S) : ∀ S' ∈ S :: l, ck_Ok O X LX mj S' := fun S' hm => (List.mem_cons.mp hm).elim (fun e => by rw [e]; exact h) (t S')
theorem ck_E0 : ck_OkE O X LX [] := fun _ _ h => nomatch h
theorem ck_E1 {mj : Nat} {l : List ck_Sum} {E : List (Nat × List ck_Sum)} (h : ∀ S ∈ l, ck_Ok O X LX mj S) (t : ck_OkE O X LX E) : ck_OkE O X LX ((mj, l) :: E) := by
  intro mj' l' he
  rw [List.lookup_cons] at he
  by_cases e : mj' = mj
  · subst e
    rw [beq_self_eq_true] at he
    cases he
    exact h
  · rw [beq_false_of_ne e] at he
    exact t mj' l' he
theorem ck_X0 : ∀ σ, ck_OkX σ X [] := fun _ _ h => nomatch h
theorem ck_l0 : ∀ l, (none : Option Nat) = some l → l = LX := fun _ h => nomatch h
end CE
/-! WHAT NEVER CHANGES, as a table: kind and length, references, types; sixteen cells a row. -/
abbrev ck_TT : Type := List (List (Option ((Nat × Nat) × List (Int × Nat) × List (Int × Int × Int × Int))))
def ck_tab (T : ck_TT) (k : Nat) : Option ((Nat × Nat) × List (Int × Nat) × List (Int × Int × Int × Int)) := match T[k / 16]? with
  | some r => (match r[k % 16]? with
    | some e => e
    | none => none)
  | none => none
/-- of the table, with what is written by hand: stretches that nothing writes, what is said of them, names, counted cells -/
def ck_OG (T : ck_TT) (fp : Nat → List (Int × Int)) (J : gm_JJ) (nm : List (Nat × Nat × Int)) (gh : Option (Nat × Int × Int)) (hJ : gm_hP fp J gh) : gm_Or := (fun k => match ck_tab T k with
  | some e => some e.1
  | none => none, fun k j => match ck_tab T k with
  | some e => e.2.1.lookup j
  | none => none, ⟨(fun k => match ck_tab T k with
    | some e => e.2.2
    | none => [], fp, J, nm, gh), hJ⟩)
def ck_OT (T : ck_TT) (fp : Nat → List (Int × Int)) (J : gm_JJ) (nm : List (Nat × Nat × Int)) (hJ : ∀ (K K' : gm_K) (M M' : gm_M), (∀ k r, r ∈ fp k → K' k = K k) → (∀ k r, r ∈ fp k → ∀ j, r.1 ≤ j → j ≤ r.2 → M' k j = M k j) → J K M → J K' M') : gm_Or := ck_OG T fp J nm none ⟨hJ, fun _ h => nomatch h⟩
end
/-! 28.sp -/
section
/-! CUTS SHOWN ONE BEHIND ANOTHER: each is walked once, those shown ahead of it are stops (names from 2000000 on). -/
noncomputable def ck_stp (O : gm_Or) (E : List (Nat × List ck_Sum)) (mi d n0 : Nat) (W : List (Nat × Int × Int) × List (Nat × Int)) (outs : List ck_Oc) (cuts : List (Nat × ck_C)) (f : Nat) : List ck_H → List ck_H → Bool
  | [], _ => true
  | h :: r, done => ck_go O none [] E mi d n0 W outs cuts f true done h.2.2.1 h.2.2.2.1 h.1 h.2.1.1 [] h.2.2.2.2 h.2.1.2.1 && ck_stp O E mi d n0 W outs cuts f r (h :: done)
noncomputable def ck_okp (O : gm_Or) (E : List (Nat × List ck_Sum)) (mi : Nat) (cuts : List (Nat × ck_C)) (l : List ck_H) (f : Nat) (S : ck_Sum) : Bool :=
  ((decide (S.2.2.1.length ≤ gm_ml mi) && ck_cu (l.map (fun h => (h.1, h.2.1)) ++ cuts)) && ck_stp O E mi S.1.1 S.2.1 S.2.2.2.2.1 S.2.2.2.2.2 (l.map (fun h => (h.1, h.2.1)) ++ cuts) f l []) && (ck_go O none [] E mi S.1.1 S.2.1 S.2.2.2.2.1 S.2.2.2.2.2 (l.map (fun h => (h.1, h.2.1)) ++ cuts) f false l S.1.2.1 S.1.2.2 0 (S.2.2.1.map some ++ List.replicate (gm_ml mi - S.2.2.1.length) none) [] S.2.1 S.2.2.2.1)
section SP
variable {O : gm_Or} {X : Int → Int} {LX : Nat} {E : List (Nat × List ck_Sum)} {mi d n0 : Nat} {W : List (Nat × Int × Int) × List (Nat × Int)} {outs : List ck_Oc} {σ σ0 : Nat → Int} {K0 : gm_K} {R0 : gm_R} {M0 : gm_M}
theorem ck_stp_s {cuts : List (Nat × ck_C)} {f : Nat} (hcu : ck_cu cuts = true) (hE : ck_nmu O ∧ ck_OkE O X LX E) : ∀ (l done : List ck_H), (∀ h ∈ l, (h.1, h.2.1) ∈ cuts) → (∀ h ∈ done, (h.1, h.2.1) ∈ cuts ∧ ∀ σ : Nat → Int, (∀ s, s < 100 → σ s = σ0 s) → ck_Hy O X LX mi d W n0 K0 R0 M0 (ck_Q O σ0 W n0 K0 R0 M0 outs) σ h) → ck_stp O E mi d n0 W outs cuts f l done = true → ∀ h ∈ l, (h.1, h.2.1) ∈ cuts ∧ ∀ σ : Nat → Int, (∀ s, s < 100 → σ s = σ0 s) → ck_Hy O X LX mi d W n0 K0 R0 M0 (ck_Q O σ0 W n0 K0 R0 M0 outs) σ h := by
  intro l
  induction l with
  | nil => intro done _ _ _ h hm; cases hm
  | cons h0 r ih =>
    intro done hl hd hs h hm
    unfold ck_stp at hs
    rw [Bool.and_eq_true] at hs
    have key : (h0.1, h0.2.1) ∈ cuts ∧ ∀ σ : Nat → Int, (∀ s, s < 100 → σ s = σ0 s) → ck_Hy O X LX mi d W n0 K0 R0 M0 (ck_Q O σ0 W n0 K0 R0 M0 outs) σ h0 := by
      refine ⟨hl h0 List.mem_cons_self, fun σ hσ v _ bc bs L K R M hb1 hb2 hS _ => ?_⟩
      exact gm_Wp_wk (Nat.le_refl _) hb1 hb2 (ck_go_s (σ0 := σ0) hcu hE ck_X0 ck_l0 f true done _ _ _ _ [] _ _ σ L [] K R M hσ (fun z hz => ⟨(hd z hz).1, (hd z hz).2 σ hσ⟩) hS hs.1)
    rcases List.mem_cons.mp hm with rfl | hm
    · exact key
    · refine ih (h0 :: done) (fun z hz => hl z (List.mem_cons_of_mem _ hz)) (fun z hz => ?_) hs.2 h hm
      rcases List.mem_cons.mp hz with rfl | hz
      · exact key
      · exact hd z hz
theorem ck_okp_s {cuts : List (Nat × ck_C)} {l : List ck_H} {f : Nat} {S : ck_Sum} (hE : ck_nmu O ∧ ck_OkE O X LX E) (h : ck_okp O E mi cuts l f S = true) : ck_Ok O X LX mi S := by
  intro d σ vs n K R M hd hn hvs _ hF hf
  unfold ck_okp at h
  simp only [Bool.and_eq_true, decide_eq_true_eq] at h
  obtain ⟨⟨⟨h2, hcu⟩, hst⟩, h3⟩ := h
  subst hn
  obtain ⟨g1, g2⟩ := ck_ent hvs
  have hl : ∀ h ∈ l, (h.1, h.2.1) ∈ l.map (fun h => (h.1, h.2.1)) ++ cuts := fun h hm => List.mem_append_left _ (List.mem_map.mpr ⟨h, hm, rfl⟩)
  have hch := ck_stp_s (σ0 := σ) (K0 := K) (R0 := R) (M0 := M) hcu hE l [] hl (fun _ hz => nomatch hz) hst
  refine gm_Wp_wk hd (Nat.le_refl _) (Nat.le_refl _) (ck_go_s (σ0 := σ) hcu hE ck_X0 ck_l0 f false l _ _ 0 _ [] _ _ σ _ [] K R M (fun _ _ => rfl) (fun z hz => ⟨(hch z hz).1, (hch z hz).2 σ (fun _ _ => rfl)⟩) ⟨hF, ⟨?_, fun j b hb => ?_⟩, rfl, hf, ck_fr_0⟩ h3)
  · unfold gm_ent
    simp [g1]
  · unfold gm_ent
    rw [List.getElem?_append] at hb ⊢
    simp only [List.length_map] at hb ⊢
    split at hb
    · rename_i e
      rw [if_pos (by rw [← g1]; exact e)]
      rw [List.getElem?_map] at hb ⊢
      cases hq : S.2.2.1[j]? with
      | none => rw [hq] at hb; cases hb
      | some b' =>
        rw [hq] at hb
        cases hb
        obtain ⟨u, h4, h5⟩ := g2 j b hq
        exact ⟨u, by rw [h4]; rfl, h5⟩
    · exfalso
      have := List.mem_of_getElem? hb
      rw [List.mem_replicate] at this
      cases this.2
end SP
/-- one of them by itself: those ahead of it are stops -/
noncomputable def ck_stpi (O : gm_Or) (E : List (Nat × List ck_Sum)) (mi d n0 : Nat) (W : List (Nat × Int × Int) × List (Nat × Int)) (outs : List ck_Oc) (cuts : List (Nat × ck_C)) (f : Nat) (l : List ck_H) (i : Nat) : Bool := match l.drop i with
  | [] => true
  | h :: _ => ck_go O none [] E mi d n0 W outs cuts f true (l.take i).reverse h.2.2.1 h.2.2.2.1 h.1 h.2.1.1 [] h.2.2.2.2 h.2.1.2.1
section SPI
variable {O : gm_Or} {X : Int → Int} {LX : Nat} {E : List (Nat × List ck_Sum)} {mi d n0 : Nat} {W : List (Nat × Int × Int) × List (Nat × Int)} {outs : List ck_Oc}
theorem ck_stpi_s {cuts : List (Nat × ck_C)} {f : Nat} {l : List ck_H} (h : ∀ i, i < l.length → ck_stpi O E mi d n0 W outs cuts f l i = true) : ∀ (r done : List ck_H), l = done.reverse ++ r → ck_stp O E mi d n0 W outs cuts f r done = true := by
  intro r
  induction r with
  | nil => intro done _; rfl
  | cons a r ih =>
    intro done e
    have h1 := h done.length (by rw [e]; simp)
    unfold ck_stpi at h1
    rw [e, List.drop_left' (by simp), List.take_left' (by simp), List.reverse_reverse] at h1
    unfold ck_stp
    rw [Bool.and_eq_true]
    exact ⟨h1, ih (a :: done) (by rw [e]; simp)⟩
theorem ck_okp_i {cuts : List (Nat × ck_C)} {l : List ck_H} {f : Nat} {S : ck_Sum} (hE : ck_nmu O ∧ ck_OkE O X LX E) (h1 : (decide (S.2.2.1.length ≤ gm_ml mi) && ck_cu (l.map (fun h => (h.1, h.2.1)) ++ cuts)) = true) (h2 : ∀ i, i < l.length → ck_stpi O E mi S.1.1 S.2.1 S.2.2.2.2.1 S.2.2.2.2.2 (l.map (fun h => (h.1, h.2.1)) ++ cuts) f l i = true) (h3 : ck_go O none [] E mi S.1.1 S.2.1 S.2.2.2.2.1 S.2.2.2.2.2 (l.map (fun h => (h.1, h.2.1)) ++ cuts) f false l S.1.2.1 S.1.2.2 0 (S.2.2.1.map some ++ List.replicate (gm_ml mi - S.2.2.1.length) none) [] S.2.1 S.2.2.2.1 = true) : ck_Ok O X LX mi S := by
  refine ck_okp_s (cuts := cuts) (l := l) (f := f) hE ?_
  unfold ck_okp
  rw [h1, h3, ck_stpi_s h2 l [] rfl]
  rfl
end SPI
end
/-! 29.ja -/
section
/-! WHAT IS SAID OF MEMORY that bounds of single numbers do not say: how many letters are opened, to whom they go, the texts of the law. -/
def jcn (f : Int → Int) : Nat → Nat
  | 0 => 0
  | m + 1 => jcn f m + (if f (124 + 7 * (m : Int)) < 0 then 1 else 0)
/-- opened and not opened are no more than there are; what is from somebody goes to somebody -/
def jO (f : Int → Int) : Prop := f 14 + (jcn f 24 : Int) ≤ f 4 ∧ ∀ l : Nat, l < 24 → 0 ≤ f (119 + 7 * (l : Int)) → 0 ≤ f (120 + 7 * (l : Int))
/-- a step with g numbers laid by leaves g' -/
def jS (k g g' : Int) : Prop := (k ≤ 10 → 0 ≤ g ∧ g' = g + 1) ∧ (k = 14 → 1 ≤ g ∧ g' = g) ∧ (10 < k → ¬ k = 14 → 2 ≤ g ∧ g' = g - 1)
/-- a text of lines; each line's steps can be reckoned -/
def jT (f : Int → Int) : Prop := ∀ n : Int, 0 ≤ n → n < 12 → n < f 0 → (0 ≤ f (3 + 4 * n) ∧ f (3 + 4 * n) ≤ f (4 + 4 * n) ∧ f (4 + 4 * n) ≤ 400) ∧ ∃ G : Int → Int, G (f (3 + 4 * n)) = 0 ∧ ∀ i, f (3 + 4 * n) ≤ i → i < f (4 + 4 * n) → jS (f (49 + 2 * i)) (G i) (G (i + 1))
/-- what is remembered keeps these types -/
def jA (t : List (Int × Int × Int × Int)) (f : Int → Int) : Prop := ∀ y : Int, 0 ≤ y → y < 12 → ∀ r ∈ t, ∀ j, r.1 ≤ j → j ≤ r.2.1 → 0 ≤ j → j < 395 → (-2147483648 ≤ f (395 * y + j) ∧ f (395 * y + j) < 2147483648) ∧ r.2.2.1 ≤ f (395 * y + j) ∧ f (395 * y + j) ≤ r.2.2.2
def jP (t : List (Int × Int × Int × Int)) (f7 f8 f9 fA : Int → Int) : Prop := (jO f7 ∧ jO f8 ∧ jO f9 ∧ ∀ y : Int, 0 ≤ y → y < 12 → jO (fun j => fA (395 * y + j))) ∧ jA t fA ∧ jT (fun j => f7 (395 + j)) ∧ jT (fun j => f8 (395 + j)) ∧ jT (fun j => f9 (395 + j))
theorem jcn_cg {f g : Int → Int} : ∀ m : Nat, (∀ l : Nat, l < m → g (124 + 7 * (l : Int)) = f (124 + 7 * (l : Int))) → jcn g m = jcn f m := by
  intro m
  induction m with
  | zero => intro _; rfl
  | succ m ih =>
    intro h
    show jcn g m + (if g (124 + 7 * (m : Int)) < 0 then 1 else 0) = jcn f m + (if f (124 + 7 * (m : Int)) < 0 then 1 else 0)
    rw [ih (fun l hl => h l (by omega)), h m (by omega)]
theorem jcn_up {f g : Int → Int} {l0 : Nat} : ∀ m : Nat, (∀ l : Nat, l < m → ¬ l = l0 → g (124 + 7 * (l : Int)) = f (124 + 7 * (l : Int))) → jcn g m ≤ jcn f m + 1 := by
  intro m
  induction m with
  | zero => intro _; exact Nat.zero_le _
  | succ m ih =>
    intro h
    show jcn g m + (if g (124 + 7 * (m : Int)) < 0 then 1 else 0) ≤ jcn f m + (if f (124 + 7 * (m : Int)) < 0 then 1 else 0) + 1
    by_cases e : m = l0
    · have := jcn_cg (f := f) (g := g) m (fun l hl => h l (by omega) (by omega))
      rw [this]
      split <;> split <;> omega
    · have := ih (fun l hl hne => h l (by omega) hne)
      rw [h m (by omega) e]
      omega
theorem jcn_dn {f g : Int → Int} {l0 : Nat} (h0 : f (124 + 7 * (l0 : Int)) < 0) (h1 : 0 ≤ g (124 + 7 * (l0 : Int))) : ∀ m : Nat, l0 < m → (∀ l : Nat, l < m → ¬ l = l0 → g (124 + 7 * (l : Int)) = f (124 + 7 * (l : Int))) → jcn g m + 1 = jcn f m := by
  intro m
  induction m with
  | zero => intro hl _; omega
  | succ m ih =>
    intro hl h
    show jcn g m + (if g (124 + 7 * (m : Int)) < 0 then 1 else 0) + 1 = jcn f m + (if f (124 + 7 * (m : Int)) < 0 then 1 else 0)
    by_cases e : m = l0
    · subst e
      have := jcn_cg (f := f) (g := g) m (fun l hl => h l (by omega) (by omega))
      rw [this, if_neg (by omega), if_pos h0]
    · have := ih (by omega) (fun l hl hne => h l (by omega) hne)
      rw [h m (by omega) e]
      omega
theorem jcn_pos {f : Int → Int} {l0 : Nat} (h0 : f (124 + 7 * (l0 : Int)) < 0) : ∀ m : Nat, l0 < m → 1 ≤ jcn f m := by
  intro m
  induction m with
  | zero => intro hl; omega
  | succ m ih =>
    intro hl
    show 1 ≤ jcn f m + (if f (124 + 7 * (m : Int)) < 0 then 1 else 0)
    by_cases e : m = l0
    · subst e
      rw [if_pos h0]
      omega
    · have := ih (by omega)
      omega
theorem jO_cg {f g : Int → Int} (h4 : g 4 = f 4) (h14 : g 14 = f 14) (h : ∀ l : Nat, l < 24 → g (119 + 7 * (l : Int)) = f (119 + 7 * (l : Int)) ∧ g (120 + 7 * (l : Int)) = f (120 + 7 * (l : Int)) ∧ g (124 + 7 * (l : Int)) = f (124 + 7 * (l : Int))) (hf : jO f) : jO g := by
  refine ⟨?_, fun l hl h1 => ?_⟩
  · rw [jcn_cg (f := f) (g := g) 24 (fun l hl => (h l hl).2.2), h4, h14]
    exact hf.1
  · rw [(h l hl).1] at h1
    rw [(h l hl).2.1]
    exact hf.2 l hl h1
theorem jO_cg2 {f g : Int → Int} (h : ∀ j, 0 ≤ j → j < 395 → g j = f j) (hf : jO f) : jO g := jO_cg (h 4 (by decide) (by decide)) (h 14 (by decide) (by decide)) (fun l hl => ⟨h _ (by omega) (by omega), h _ (by omega) (by omega), h _ (by omega) (by omega)⟩) hf
theorem jT_cg {f g : Int → Int} (h : ∀ j, 0 ≤ j → j < 849 → g j = f j) (hf : jT f) : jT g := by
  intro n h1 h2 h3
  rw [h 0 (by decide) (by decide)] at h3
  obtain ⟨⟨a1, a2, a3⟩, G, a4, a5⟩ := hf n h1 h2 h3
  rw [h (3 + 4 * n) (by omega) (by omega), h (4 + 4 * n) (by omega) (by omega)]
  refine ⟨⟨a1, a2, a3⟩, G, a4, fun i h4 h5 => ?_⟩
  rw [h (49 + 2 * i) (by omega) (by omega)]
  exact a5 i h4 h5
theorem jA_cg {t : List (Int × Int × Int × Int)} {f g : Int → Int} (h : ∀ j, 0 ≤ j → j < 4740 → g j = f j) (hf : jA t f) : jA t g := by
  intro y y1 y2 r hr j h1 h2 h3 h4
  rw [h (395 * y + j) (by omega) (by omega)]
  exact hf y y1 y2 r hr j h1 h2 h3 h4
def j_fp (k : Nat) : List (Int × Int) := if k = 227 then [(4, 4), (14, 14), (395, 1243), (119, 120), (124, 124), (126, 127), (131, 131), (133, 134), (138, 138), (140, 141), (145, 145), (147, 148), (152, 152), (154, 155), (159, 159), (161, 162), (166, 166), (168, 169), (173, 173), (175, 176), (180, 180), (182, 183), (187, 187), (189, 190), (194, 194), (196, 197), (201, 201), (203, 204), (208, 208), (210, 211), (215, 215), (217, 218), (222, 222), (224, 225), (229, 229), (231, 232), (236, 236), (238, 239), (243, 243), (245, 246), (250, 250), (252, 253), (257, 257), (259, 260), (264, 264), (266, 267), (271, 271), (273, 274), (278, 278), (280, 281), (285, 285)] else if k = 228 then [(0, 1243)] else if k = 229 then [(0, 1243)] else if k = 230 then [(0, 4739)] else []
def j_J (t : List (Int × Int × Int × Int)) (_ : gm_K) (M : gm_M) : Prop := jP t (M 227) (M 228) (M 229) (M 230)
theorem j_fpm : (List.range 24).all (fun l => decide ((119 + 7 * (l : Int), 120 + 7 * (l : Int)) ∈ j_fp 227) && decide ((124 + 7 * (l : Int), 124 + 7 * (l : Int)) ∈ j_fp 227)) = true := by decide +kernel
theorem j_h {t : List (Int × Int × Int × Int)} : ∀ (K K' : gm_K) (M M' : gm_M), (∀ k r, r ∈ j_fp k → K' k = K k) → (∀ k r, r ∈ j_fp k → ∀ j, r.1 ≤ j → j ≤ r.2 → M' k j = M k j) → j_J t K M → j_J t K' M' := by
  intro _ _ M M' _ h hJ
  obtain ⟨⟨o7, o8, o9, oA⟩, tA, t7, t8, t9⟩ := hJ
  have h8 : ∀ j, 0 ≤ j → j < 1244 → M' 228 j = M 228 j := fun j h1 h2 => h 228 (0, 1243) (by decide) j h1 (by dsimp only; omega)
  have h9 : ∀ j, 0 ≤ j → j < 1244 → M' 229 j = M 229 j := fun j h1 h2 => h 229 (0, 1243) (by decide) j h1 (by dsimp only; omega)
  have hA : ∀ j, 0 ≤ j → j < 4740 → M' 230 j = M 230 j := fun j h1 h2 => h 230 (0, 4739) (by decide) j h1 (by dsimp only; omega)
  have h7 : ∀ j, 395 ≤ j → j < 1244 → M' 227 j = M 227 j := fun j h1 h2 => h 227 (395, 1243) (by decide +kernel) j h1 (by dsimp only; omega)
  refine ⟨⟨jO_cg (h 227 (4, 4) (by decide +kernel) 4 (Int.le_refl _) (Int.le_refl _)) (h 227 (14, 14) (by decide +kernel) 14 (Int.le_refl _) (Int.le_refl _)) (fun l hl => ?_) o7, jO_cg2 (fun j h1 h2 => h8 j h1 (by omega)) o8, jO_cg2 (fun j h1 h2 => h9 j h1 (by omega)) o9, fun y y1 y2 => jO_cg2 (fun j h1 h2 => hA _ (by omega) (by omega)) (oA y y1 y2)⟩, jA_cg hA tA, jT_cg (fun j h1 h2 => h7 _ (by omega) (by omega)) t7, jT_cg (fun j h1 h2 => h8 _ (by omega) (by omega)) t8, jT_cg (fun j h1 h2 => h9 _ (by omega) (by omega)) t9⟩
  have h1 := List.all_eq_true.mp j_fpm l (List.mem_range.mpr hl)
  rw [Bool.and_eq_true, decide_eq_true_eq, decide_eq_true_eq] at h1
  exact ⟨h 227 _ h1.1 _ (Int.le_refl _) (by dsimp only; omega), h 227 _ h1.1 _ (by dsimp only; omega) (Int.le_refl _), h 227 _ h1.2 _ (Int.le_refl _) (Int.le_refl _)⟩
/-! how it changes -/
theorem j_image {t : List (Int × Int × Int × Int)} {f7 f8 f9 fA g : Int → Int} (h : jP t f7 f8 f9 fA) (hg : ∀ j, 0 ≤ j → j < 1244 → g j = f7 j) : jP t f7 g f9 fA := by
  obtain ⟨⟨o7, o8, o9, oA⟩, tA, t7, t8, t9⟩ := h
  exact ⟨⟨o7, jO_cg2 (fun j h1 h2 => hg j h1 (by omega)) o7, o9, oA⟩, tA, t7, jT_cg (fun j h1 h2 => hg _ (by omega) (by omega)) t7, t9⟩
theorem j_before {t : List (Int × Int × Int × Int)} {f7 f8 f9 fA g : Int → Int} (h : jP t f7 f8 f9 fA) (hg : ∀ j, 0 ≤ j → j < 1244 → g j = f7 j) : jP t f7 f8 g fA := by
  obtain ⟨⟨o7, o8, o9, oA⟩, tA, t7, t8, t9⟩ := h
  exact ⟨⟨o7, o8, jO_cg2 (fun j h1 h2 => hg j h1 (by omega)) o7, oA⟩, tA, t7, t8, jT_cg (fun j h1 h2 => hg _ (by omega) (by omega)) t7⟩
theorem j_back {t : List (Int × Int × Int × Int)} {f7 f8 f9 fA g : Int → Int} (h : jP t f7 f8 f9 fA) (hg : ∀ j, 0 ≤ j → j < 1244 → g j = f8 j) : jP t g f8 f9 fA := by
  obtain ⟨⟨o7, o8, o9, oA⟩, tA, t7, t8, t9⟩ := h
  exact ⟨⟨jO_cg2 (fun j h1 h2 => hg j h1 (by omega)) o8, o8, o9, oA⟩, tA, jT_cg (fun j h1 h2 => hg _ (by omega) (by omega)) t8, t8, t9⟩
theorem j_again {t : List (Int × Int × Int × Int)} {f7 f8 f9 fA g : Int → Int} (h : jP t f7 f8 f9 fA) (hg : ∀ j, 0 ≤ j → j < 1244 → g j = f9 j) : jP t g f8 f9 fA := by
  obtain ⟨⟨o7, o8, o9, oA⟩, tA, t7, t8, t9⟩ := h
  exact ⟨⟨jO_cg2 (fun j h1 h2 => hg j h1 (by omega)) o9, o8, o9, oA⟩, tA, jT_cg (fun j h1 h2 => hg _ (by omega) (by omega)) t9, t8, t9⟩
theorem j_law {t : List (Int × Int × Int × Int)} {f7 f8 f9 fA g : Int → Int} (h : jP t f7 f8 f9 fA) (hg : ∀ j, 0 ≤ j → j < 395 → g j = f7 j) (ht : jT (fun j => g (395 + j))) : jP t g f8 f9 fA := by
  obtain ⟨⟨o7, o8, o9, oA⟩, tA, t7, t8, t9⟩ := h
  exact ⟨⟨jO_cg2 hg o7, o8, o9, oA⟩, tA, ht, t8, t9⟩
theorem j_undo {t : List (Int × Int × Int × Int)} {f7 f8 f9 fA g : Int → Int} {y : Int} (h : jP t f7 f8 f9 fA) (hy : 0 ≤ y ∧ y < 12) (hg : ∀ j, 0 ≤ j → j < 395 → g j = fA (395 * y + j)) (hg2 : ∀ j, 395 ≤ j → j < 1244 → g j = f7 j) : jP t g f8 f9 fA := by
  obtain ⟨⟨o7, o8, o9, oA⟩, tA, t7, t8, t9⟩ := h
  exact ⟨⟨jO_cg2 (f := fun j => fA (395 * y + j)) hg (oA y hy.1 hy.2), o8, o9, oA⟩, tA, jT_cg (fun j h1 h2 => hg2 _ (by omega) (by omega)) t7, t8, t9⟩
theorem j_shift {t : List (Int × Int × Int × Int)} {f7 f8 f9 fA g : Int → Int} (h : jP t f7 f8 f9 fA) (hg : ∀ j, 0 ≤ j → j < 4345 → g j = fA (j + 395)) (hg2 : ∀ j, 4345 ≤ j → j < 4740 → g j = fA j) : jP t f7 f8 f9 g := by
  obtain ⟨⟨o7, o8, o9, oA⟩, tA, t7, t8, t9⟩ := h
  refine ⟨⟨o7, o8, o9, fun y y1 y2 => ?_⟩, fun y y1 y2 r hr j h1 h2 h3 h4 => ?_, t7, t8, t9⟩
  · by_cases e : y < 11
    · refine jO_cg2 (f := fun j => fA (395 * (y + 1) + j)) (fun j h1 h2 => ?_) (oA (y + 1) (by omega) (by omega))
      rw [hg _ (by omega) (by omega)]
      congr 1
      omega
    · exact jO_cg2 (f := fun j => fA (395 * y + j)) (fun j h1 h2 => hg2 _ (by omega) (by omega)) (oA y y1 y2)
  · by_cases e : y < 11
    · rw [hg _ (by omega) (by omega), show 395 * y + j + 395 = 395 * (y + 1) + j by omega]
      exact tA (y + 1) (by omega) (by omega) r hr j h1 h2 h3 h4
    · rw [hg2 _ (by omega) (by omega)]
      exact tA y y1 y2 r hr j h1 h2 h3 h4
theorem j_store {t : List (Int × Int × Int × Int)} {f7 f8 f9 fA g : Int → Int} {y0 : Int} (h : jP t f7 f8 f9 fA) (ht : ∀ r ∈ t, ∀ j, r.1 ≤ j → j ≤ r.2.1 → 0 ≤ j → j < 395 → (-2147483648 ≤ f7 j ∧ f7 j < 2147483648) ∧ r.2.2.1 ≤ f7 j ∧ f7 j ≤ r.2.2.2) (hg : ∀ j, 0 ≤ j → j < 395 → g (395 * y0 + j) = f7 j) (hg2 : ∀ j, ¬ (395 * y0 ≤ j ∧ j < 395 * y0 + 395) → g j = fA j) : jP t f7 f8 f9 g := by
  obtain ⟨⟨o7, o8, o9, oA⟩, tA, t7, t8, t9⟩ := h
  refine ⟨⟨o7, o8, o9, fun y y1 y2 => ?_⟩, fun y y1 y2 r hr j h1 h2 h3 h4 => ?_, t7, t8, t9⟩
  · by_cases e : y = y0
    · subst e
      exact jO_cg2 (f := f7) (fun j h1 h2 => hg j h1 h2) o7
    · exact jO_cg2 (f := fun j => fA (395 * y + j)) (fun j h1 h2 => hg2 _ (by omega)) (oA y y1 y2)
  · by_cases e : y = y0
    · subst e
      rw [hg j h3 h4]
      exact ht r hr j h1 h2 h3 h4
    · rw [hg2 _ (by omega)]
      exact tA y y1 y2 r hr j h1 h2 h3 h4
/-- something is thrown in as number l -/
theorem jO_throw {f g : Int → Int} {l0 : Nat} (hf : jO f) (h4 : g 4 = f 4 + 1) (h14 : g 14 = f 14) (hs : ∀ l : Nat, l < 24 → ¬ l = l0 → g (119 + 7 * (l : Int)) = f (119 + 7 * (l : Int)) ∧ g (120 + 7 * (l : Int)) = f (120 + 7 * (l : Int)) ∧ g (124 + 7 * (l : Int)) = f (124 + 7 * (l : Int))) (h0 : 0 ≤ g (119 + 7 * (l0 : Int)) → 0 ≤ g (120 + 7 * (l0 : Int))) : jO g := by
  refine ⟨?_, fun l hl h1 => ?_⟩
  · have h1 := jcn_up (f := f) (g := g) (l0 := l0) 24 (fun l hl hne => (hs l hl hne).2.2)
    have h2 := hf.1
    omega
  · by_cases e : l = l0
    · subst e
      exact h0 h1
    · rw [(hs l hl e).1] at h1
      rw [(hs l hl e).2.1]
      exact hf.2 l hl h1
/-- letter l is opened -/
theorem jO_open {f g : Int → Int} {l0 : Nat} (hl0 : l0 < 24) (hf : jO f) (h4 : g 4 = f 4) (h14 : g 14 = f 14 + 1) (hb : f (124 + 7 * (l0 : Int)) < 0) (hb2 : 0 ≤ g (124 + 7 * (l0 : Int))) (hs : ∀ l : Nat, l < 24 → g (119 + 7 * (l : Int)) = f (119 + 7 * (l : Int)) ∧ g (120 + 7 * (l : Int)) = f (120 + 7 * (l : Int)) ∧ (¬ l = l0 → g (124 + 7 * (l : Int)) = f (124 + 7 * (l : Int)))) : jO g := by
  refine ⟨?_, fun l hl h1 => ?_⟩
  · have h1 := jcn_dn (f := f) (g := g) hb hb2 24 hl0 (fun l hl hne => (hs l hl).2.2 hne)
    have h2 := hf.1
    omega
  · rw [(hs l hl).1] at h1
    rw [(hs l hl).2.1]
    exact hf.2 l hl h1
theorem jO_lt {f : Int → Int} {l0 : Nat} (hl0 : l0 < 24) (hf : jO f) (hb : f (124 + 7 * (l0 : Int)) < 0) : f 14 < f 4 := by
  have h1 := jcn_pos (f := f) hb 24 hl0
  have h2 := hf.1
  omega
end
