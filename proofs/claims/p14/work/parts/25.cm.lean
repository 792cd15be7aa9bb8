/-! THE CHECKER: heap, calls and ends. -/
section CM
variable {O : gm_Or} {X : Int → Int} {LX : Nat} {lx : Option Nat} {XF : List (Int × Int × ck_I)} {E : List (Nat × List ck_Sum)} {mi d n0 : Nat} {W : List (Nat × Int × Int) × List (Nat × Int)} {outs : List ck_Oc} {bc bs pc : Nat} {L : gm_L} {st : List gm_V} {n : Nat} {K : gm_K} {R : gm_R} {M : gm_M} {AL : ck_AL} {AS : ck_AS} {F : ck_F} {σ σ0 : Nat → Int} {K0 : gm_K} {R0 : gm_R} {M0 : gm_M} {k : Nat → Nat → Nat → ck_AL → ck_AS → Nat → ck_F → Bool}
theorem ck_gr0 {k : Nat} {j : Int} (x : Int) {L : gm_L} {M : gm_M} (h : M k j = x := by rfl) : ck_gr L M (some (.inr (.inl (k, j, 0)))) (gm_vi x) := by
  show gm_vi x = gm_vi (M k j + 0)
  rw [Int.add_zero, h]
theorem ck_j_get {ix : Nat}  (hat : gm_at mi pc = some (.getfield ix)) (hS : ck_St O σ W n0 K0 R0 M0 AL AS F L st n K R M) (hk : ck_On O X LX σ mi d W n0 K0 R0 M0 (ck_Q O σ0 W n0 K0 R0 M0 outs) k) (h : ck_j O lx XF E mi d n0 W outs bc bs pc AL AS n F k (.getfield ix) = true) : gm_Wp X LX d bc bs mi pc L st n K R M (ck_Q O σ0 W n0 K0 R0 M0 outs) := by
  rcases AS with _ | ⟨⟨a | a | r | c, s⟩, AS⟩ <;> (try exact absurd (show false = true from h) Bool.false_ne_true)
  obtain ⟨f1, f2, f3, f4, f5⟩ := hS
  obtain ⟨st, rfl, hst⟩ := ck_qr f3
  unfold ck_j at h
  dsimp only at h
  cases hq : ck_kd O F r with
  | none => rw [hq] at h; cases h
  | some q =>
    rw [hq] at h
    dsimp only at h
    obtain ⟨h1, h2⟩ := ck_kd_s f1 f4 hq
    cases hj : gm_fld (gm_ow mi) ix (q.1 - 4) with
    | none => rw [hj] at h; cases h
    | some j =>
      rw [hj] at h
      dsimp only at h
      rw [Bool.and_eq_true, decide_eq_true_eq] at h
      obtain ⟨h3, h⟩ := h
      have hg := gm_p_get (X := X) (LX := LX) (d := d) (L := L) (st := st) (n := n) (K := K) (R := R) (M := M) hat h1 (show (K r).1 = (q.1 - 4) + 4 by rw [h2]; omega) hj
      split at h
      · rename_i e
        rw [if_pos e] at hg
        cases hv : ck_fR O F r j with
        | none => rw [hv] at h; cases h
        | some v =>
          rw [hv] at h
          obtain ⟨-, h5⟩ := ck_fR_s f1 f4 hv
          rw [h5] at hg
          exact gm_sz hg (hk _ _ _ _ _ _ _ _ _ _ _ _ h ⟨f1, f2, ck_pr hst, f4, f5⟩)
      · rename_i e
        rw [if_neg e] at hg
        cases hf : ck_fi F r j j with
        | some a =>
          rw [hf] at h
          have h5 := (ck_fi_s f4 hf).2 j (Int.le_refl _) (Int.le_refl _)
          exact gm_sz hg (hk _ _ _ _ _ _ _ _ _ _ _ _ h ⟨f1, f2, ck_pi h5.1 h5.2 (s := some (.inr (.inl (r, (j : Int), 0)))) (ck_gr0 _) hst, f4, f5⟩)
        | none =>
          rw [hf] at h
          dsimp only at h
          cases ht : gm_tyr O r j j with
          | some t =>
            rw [ht] at h
            have h5 := (gm_tyr_s f1 ht).2 j (Int.le_refl _) (Int.le_refl _)
            exact gm_sz hg (hk _ _ _ _ _ _ _ _ _ _ _ _ h ⟨f1, f2, ck_pi (a := (t.1, t.2, [])) h5.1 ⟨h5.2.1, h5.2.2, fun _ h => nomatch h⟩ (s := some (.inr (.inl (r, (j : Int), 0)))) (ck_gr0 _) hst, ck_tf_s f1 f4 ht, f5⟩)
          | none =>
            rw [ht] at h
            exact gm_sz hg (ck_nv (hk _ _ _ _ _ _ _ _ _ _ _ _ h ⟨f1, f2, ck_pi (ck_w_ir _) (ck_top_s _) (s := none) trivial hst, f4, f5⟩))
theorem ck_j_put {ix : Nat}  (hat : gm_at mi pc = some (.putfield ix)) (hS : ck_St O σ W n0 K0 R0 M0 AL AS F L st n K R M) (hk : ck_On O X LX σ mi d W n0 K0 R0 M0 (ck_Q O σ0 W n0 K0 R0 M0 outs) k) (h : ck_j O lx XF E mi d n0 W outs bc bs pc AL AS n F k (.putfield ix) = true) : gm_Wp X LX d bc bs mi pc L st n K R M (ck_Q O σ0 W n0 K0 R0 M0 outs) := by
  rcases AS with _ | ⟨⟨a | a | v | c, s⟩, _ | ⟨⟨b | b | r | c', t⟩, AS⟩⟩ <;> (try exact absurd (show false = true from h) Bool.false_ne_true)
  · obtain ⟨f1, f2, f3, f4, f5⟩ := hS
    obtain ⟨x, st, rfl, hx, ha, hsx, hst⟩ := ck_qi f3
    obtain ⟨st, e0, hst'⟩ := ck_qr hst
    subst e0
    replace hst := hst'
    unfold ck_j at h
    dsimp only at h
    cases hq : ck_kd O F r with
    | none => rw [hq] at h; cases h
    | some q =>
      rw [hq] at h
      dsimp only at h
      obtain ⟨h1, h2⟩ := ck_kd_s f1 f4 hq
      cases hj : gm_fld (gm_ow mi) ix (q.1 - 4) with
      | none => rw [hj] at h; cases h
      | some j =>
        rw [hj] at h
        dsimp only at h
        cases hgp : ck_gp O F r j s a with
        | some g =>
          rw [hgp] at h
          dsimp only at h
          simp only [Bool.and_eq_true, decide_eq_true_eq, beq_iff_eq] at h
          obtain ⟨⟨h3, h4, h5, h6, h7, h8⟩, h⟩ := h
          obtain ⟨M', m1, m2, m3, m4⟩ := ck_gF_s f1 f4 f5 hx ha hsx hgp h1.2 ⟨h5, h6, h7⟩
          exact gm_sz (gm_p_puti hat h1 (show (K r).1 = (q.1 - 4) + 4 by rw [h2]; omega) hj h4 (.inl h8)) (gm_Wp_g m1 (hk _ _ _ _ _ _ _ _ _ _ _ _ h ⟨m2, f2, ck_sh_s hst, m3, m4⟩))
        | none =>
        rw [hgp] at h
        dsimp only at h
        simp only [Bool.and_eq_true, Bool.or_eq_true, decide_eq_true_eq, beq_iff_eq, Option.isNone_iff_eq_none] at h
        obtain ⟨⟨h3, h4, h5, h6, h7⟩, h⟩ := h
        have hfit : gm_fk (q.1 - 4) j = 0 ∨ gm_fk (q.1 - 4) j = 1 ∧ (x = 0 ∨ x = 1) := by
          rcases h7 with h7 | ⟨h7, h8, h9⟩
          · exact .inl h7
          · refine .inr ⟨h7, ?_⟩
            have := ha.1
            have := ha.2.1
            omega
        exact gm_sz (gm_p_puti hat h1 (show (K r).1 = (q.1 - 4) + 4 by rw [h2]; omega) hj h4 hfit) (hk _ _ _ _ _ _ _ _ _ _ _ _ h ⟨gm_Fx_M f1 h5 (Int.le_refl _) (Int.le_refl _) ha.1 ha.2.1, f2, ck_sh_s hst, ck_upT_s f4 h1.2 (Int.le_refl _) (Int.le_refl _) hx ha, ck_fr_M f5 h6 (Int.le_refl _) (Int.le_refl _)⟩)
  · obtain ⟨f1, f2, f3, f4, f5⟩ := hS
    obtain ⟨st, rfl, hst⟩ := ck_qr f3
    obtain ⟨st, e0, hst'⟩ := ck_qr hst
    subst e0
    replace hst := hst'
    unfold ck_j at h
    dsimp only at h
    cases hq : ck_kd O F r with
    | none => rw [hq] at h; cases h
    | some q =>
      rw [hq] at h
      dsimp only at h
      obtain ⟨h1, h2⟩ := ck_kd_s f1 f4 hq
      cases hj : gm_fld (gm_ow mi) ix (q.1 - 4) with
      | none => rw [hj] at h; cases h
      | some j =>
        rw [hj] at h
        dsimp only at h
        simp only [Bool.and_eq_true, decide_eq_true_eq, beq_iff_eq, Option.isNone_iff_eq_none] at h
        obtain ⟨⟨h3, h4, h5, h6, h7⟩, h⟩ := h
        exact gm_sz (gm_p_putr hat h1 (show (K r).1 = (q.1 - 4) + 4 by rw [h2]; omega) hj h4 h7) (hk _ _ _ _ _ _ _ _ _ _ _ _ h ⟨gm_Fx_R f1 h5, f2, hst, ck_upR_s f4 h1.2, ck_fr_R f5 h6⟩)
theorem ck_j_iald  (hX : ck_OkX σ X XF) (hlx : ∀ l, lx = some l → l = LX) (hat : gm_at mi pc = some (.iaload)) (hS : ck_St O σ W n0 K0 R0 M0 AL AS F L st n K R M) (hk : ck_On O X LX σ mi d W n0 K0 R0 M0 (ck_Q O σ0 W n0 K0 R0 M0 outs) k) (h : ck_j O lx XF E mi d n0 W outs bc bs pc AL AS n F k (.iaload) = true) : gm_Wp X LX d bc bs mi pc L st n K R M (ck_Q O σ0 W n0 K0 R0 M0 outs) := by
  rcases AS with _ | ⟨⟨e | e | r | c, t⟩, _ | ⟨⟨a | a | r | c, s⟩, AS⟩⟩ <;> (try exact absurd (show false = true from h) Bool.false_ne_true)
  · obtain ⟨f1, f2, f3, f4, f5⟩ := hS
    obtain ⟨i, st, rfl, hi, he, -, hst⟩ := ck_qi f3
    obtain ⟨st, e0, hst'⟩ := ck_qr hst
    subst e0
    replace hst := hst'
    unfold ck_j at h
    dsimp only at h
    cases hq : ck_kd O F r with
    | none => rw [hq] at h; cases h
    | some q =>
      rw [hq] at h
      dsimp only at h
      obtain ⟨h1, h2⟩ := ck_kd_s f1 f4 hq
      rw [Bool.and_eq_true] at h
      obtain ⟨h0, h⟩ := h
      simp only [Bool.and_eq_true, beq_iff_eq, decide_eq_true_eq] at h0
      obtain ⟨h3, h4, h5⟩ := h0
      have hi1 := he.1
      have hi2 := he.2.1
      have hg := gm_p_iald (X := X) (LX := LX) (d := d) (L := L) (st := st) (n := n) (K := K) (R := R) (M := M) (e0 := i) hat h1 (by rw [h2]; exact h3) (by rw [gm_ir_w hi, h2]; omega)
      rw [gm_ir_w hi] at hg
      cases hf : ck_fi F r e.1 e.2.1 with
      | some a =>
        rw [hf] at h
        have h6 := (ck_fi_s f4 hf).2 i hi1 hi2
        refine gm_sz hg (hk _ _ _ _ _ _ _ _ _ _ _ _ h ⟨f1, f2, ck_pi h6.1 h6.2 ?_ hst, f4, f5⟩)
        split
        · rename_i e9
          have := ck_sg_s he e9
          subst this
          exact ck_gr0 _
        · exact trivial
      | none =>
        rw [hf] at h
        dsimp only at h
        cases ht : gm_tyr O r e.1 e.2.1 with
        | none =>
          rw [ht] at h
          exact gm_sz hg (ck_nv (hk _ _ _ _ _ _ _ _ _ _ _ _ h ⟨f1, f2, ck_pi (ck_w_ir _) (ck_top_s _) (s := none) trivial hst, f4, f5⟩))
        | some t =>
          rw [ht] at h
          dsimp only at h
          have h6 := (gm_tyr_s f1 ht).2 i hi1 hi2
          split at h
          · rename_i e9
            have e8 := ck_sg_s he e9
            have e7 : e.2.1 = e.1 := by
              unfold ck_sg at e9
              exact (of_decide_eq_true e9).symm
            rw [e7] at ht
            refine gm_sz hg (hk _ _ _ _ _ _ _ _ _ _ _ _ h ⟨f1, f2, ck_pi (a := (t.1, t.2, [])) h6.1 ⟨h6.2.1, h6.2.2, fun _ h => nomatch h⟩ (s := some (.inr (.inl (r, e.1, 0)))) ?_ hst, ck_tf_s f1 f4 ht, f5⟩)
            subst e8
            exact ck_gr0 _
          · exact gm_sz hg (hk _ _ _ _ _ _ _ _ _ _ _ _ h ⟨f1, f2, ck_pi (a := (t.1, t.2, [])) h6.1 ⟨h6.2.1, h6.2.2, fun _ h => nomatch h⟩ (s := none) trivial hst, f4, f5⟩)
  · obtain ⟨f1, f2, f3, f4, f5⟩ := hS
    obtain ⟨i, st, rfl, hi, he, -, hst⟩ := ck_qi f3
    obtain ⟨st, e0, hst'⟩ := ck_qo hst
    subst e0
    replace hst := hst'
    unfold ck_j at h
    dsimp only at h
    cases hl9 : lx with
    | none => rw [hl9] at h; cases h
    | some l =>
    have hl8 := hlx l hl9
    subst hl8
    rw [hl9] at h
    dsimp only at h
    rw [Bool.and_eq_true] at h
    obtain ⟨h0, h⟩ := h
    simp only [Bool.and_eq_true, beq_iff_eq, decide_eq_true_eq] at h0
    obtain ⟨h3, h4, h5⟩ := h0
    subst h3
    have hi1 := he.1
    have hi2 := he.2.1
    have hg := gm_p_sald (X := X) (LX := l) (d := d) (L := L) (st := st) (n := n) (K := K) (R := R) (M := M) (e0 := i) hat (by rw [gm_ir_w hi]; omega)
    rw [gm_ir_w hi] at hg
    cases hf : XF.find? fun q => decide (q.1 ≤ e.1) && decide (e.2.1 ≤ q.2.1) with
    | some q =>
      rw [hf] at h
      have h6 := List.find?_some hf
      simp only [Bool.and_eq_true, decide_eq_true_eq] at h6
      have h7 := hX q (List.mem_of_find?_eq_some hf) i (by omega) (by omega)
      exact gm_sz hg (hk _ _ _ _ _ _ _ _ _ _ _ _ h ⟨f1, f2, ck_pi h7.1 h7.2 (s := none) trivial hst, f4, f5⟩)
    | none =>
      rw [hf] at h
      exact gm_sz hg (ck_nv (hk _ _ _ _ _ _ _ _ _ _ _ _ h ⟨f1, f2, ck_pi (ck_w_ir _) (ck_top_s _) (s := none) trivial hst, f4, f5⟩))
theorem ck_j_bald   (hat : gm_at mi pc = some (.baload)) (hS : ck_St O σ W n0 K0 R0 M0 AL AS F L st n K R M) (hk : ck_On O X LX σ mi d W n0 K0 R0 M0 (ck_Q O σ0 W n0 K0 R0 M0 outs) k) (h : ck_j O lx XF E mi d n0 W outs bc bs pc AL AS n F k (.baload) = true) : gm_Wp X LX d bc bs mi pc L st n K R M (ck_Q O σ0 W n0 K0 R0 M0 outs) := by
  rcases AS with _ | ⟨⟨e | e | r | c, t⟩, _ | ⟨⟨a | a | r | c, s⟩, AS⟩⟩ <;> (try exact absurd (show false = true from h) Bool.false_ne_true)
  · obtain ⟨f1, f2, f3, f4, f5⟩ := hS
    obtain ⟨i, st, rfl, hi, he, -, hst⟩ := ck_qi f3
    obtain ⟨st, e0, hst'⟩ := ck_qr hst
    subst e0
    replace hst := hst'
    unfold ck_j at h
    dsimp only at h
    cases hq : ck_kd O F r with
    | none => rw [hq] at h; cases h
    | some q =>
      rw [hq] at h
      dsimp only at h
      obtain ⟨h1, h2⟩ := ck_kd_s f1 f4 hq
      rw [Bool.and_eq_true] at h
      obtain ⟨h0, h⟩ := h
      simp only [Bool.and_eq_true, beq_iff_eq, decide_eq_true_eq] at h0
      obtain ⟨h3, h4, h5⟩ := h0
      have hi1 := he.1
      have hi2 := he.2.1
      have hg := gm_p_bald (X := X) (LX := LX) (d := d) (L := L) (st := st) (n := n) (K := K) (R := R) (M := M) (e0 := i) hat h1 (by rw [h2]; exact h3) (by rw [gm_ir_w hi, h2]; omega)
      rw [gm_ir_w hi] at hg
      cases hf : ck_fi F r e.1 e.2.1 with
      | some a =>
        rw [hf] at h
        have h6 := (ck_fi_s f4 hf).2 i hi1 hi2
        refine gm_sz hg (hk _ _ _ _ _ _ _ _ _ _ _ _ h ⟨f1, f2, ck_pi h6.1 h6.2 ?_ hst, f4, f5⟩)
        split
        · rename_i e9
          have := ck_sg_s he e9
          subst this
          exact ck_gr0 _
        · exact trivial
      | none =>
        rw [hf] at h
        dsimp only at h
        cases ht : gm_tyr O r e.1 e.2.1 with
        | none =>
          rw [ht] at h
          exact gm_sz hg (ck_nv (hk _ _ _ _ _ _ _ _ _ _ _ _ h ⟨f1, f2, ck_pi (ck_w_ir _) (ck_top_s _) (s := none) trivial hst, f4, f5⟩))
        | some t =>
          rw [ht] at h
          dsimp only at h
          have h6 := (gm_tyr_s f1 ht).2 i hi1 hi2
          split at h
          · rename_i e9
            have e8 := ck_sg_s he e9
            have e7 : e.2.1 = e.1 := by
              unfold ck_sg at e9
              exact (of_decide_eq_true e9).symm
            rw [e7] at ht
            refine gm_sz hg (hk _ _ _ _ _ _ _ _ _ _ _ _ h ⟨f1, f2, ck_pi (a := (t.1, t.2, [])) h6.1 ⟨h6.2.1, h6.2.2, fun _ h => nomatch h⟩ (s := some (.inr (.inl (r, e.1, 0)))) ?_ hst, ck_tf_s f1 f4 ht, f5⟩)
            subst e8
            exact ck_gr0 _
          · exact gm_sz hg (hk _ _ _ _ _ _ _ _ _ _ _ _ h ⟨f1, f2, ck_pi (a := (t.1, t.2, [])) h6.1 ⟨h6.2.1, h6.2.2, fun _ h => nomatch h⟩ (s := none) trivial hst, f4, f5⟩)
theorem ck_j_lald   (hat : gm_at mi pc = some (.laload)) (hS : ck_St O σ W n0 K0 R0 M0 AL AS F L st n K R M) (hk : ck_On O X LX σ mi d W n0 K0 R0 M0 (ck_Q O σ0 W n0 K0 R0 M0 outs) k) (h : ck_j O lx XF E mi d n0 W outs bc bs pc AL AS n F k (.laload) = true) : gm_Wp X LX d bc bs mi pc L st n K R M (ck_Q O σ0 W n0 K0 R0 M0 outs) := by
  rcases AS with _ | ⟨⟨e | e | r | c, t⟩, _ | ⟨⟨a | a | r | c, s⟩, AS⟩⟩ <;> (try exact absurd (show false = true from h) Bool.false_ne_true)
  · obtain ⟨f1, f2, f3, f4, f5⟩ := hS
    obtain ⟨i, st, rfl, hi, he, -, hst⟩ := ck_qi f3
    obtain ⟨st, e0, hst'⟩ := ck_qr hst
    subst e0
    replace hst := hst'
    unfold ck_j at h
    dsimp only at h
    cases hq : ck_kd O F r with
    | none => rw [hq] at h; cases h
    | some q =>
      rw [hq] at h
      dsimp only at h
      obtain ⟨h1, h2⟩ := ck_kd_s f1 f4 hq
      rw [Bool.and_eq_true] at h
      obtain ⟨h0, h⟩ := h
      simp only [Bool.and_eq_true, beq_iff_eq, decide_eq_true_eq] at h0
      obtain ⟨h3, h4, h5⟩ := h0
      have hi1 := he.1
      have hi2 := he.2.1
      have hg := gm_p_lald (X := X) (LX := LX) (d := d) (L := L) (st := st) (n := n) (K := K) (R := R) (M := M) (e0 := i) hat h1 (by rw [h2]; exact h3) (by rw [gm_ir_w hi, h2]; omega)
      rw [gm_ir_w hi] at hg
      cases hf : ck_fi F r e.1 e.2.1 with
      | some a =>
        rw [hf] at h
        have h6 := (ck_fi_s f4 hf).2 i hi1 hi2
        exact gm_sz hg (hk _ _ _ _ _ _ _ _ _ _ _ _ h ⟨f1, f2, ck_pl (ck_r6_i h6.1) h6.2 hst, f4, f5⟩)
      | none =>
        rw [hf] at h
        exact gm_sz hg (ck_nv6 (hk _ _ _ _ _ _ _ _ _ _ _ _ h ⟨f1, f2, ck_pl (ck_r6_w _) (ck_tp6_s (ck_r6_w _)) hst, f4, f5⟩))
theorem ck_j_aald   (hat : gm_at mi pc = some (.aaload)) (hS : ck_St O σ W n0 K0 R0 M0 AL AS F L st n K R M) (hk : ck_On O X LX σ mi d W n0 K0 R0 M0 (ck_Q O σ0 W n0 K0 R0 M0 outs) k) (h : ck_j O lx XF E mi d n0 W outs bc bs pc AL AS n F k (.aaload) = true) : gm_Wp X LX d bc bs mi pc L st n K R M (ck_Q O σ0 W n0 K0 R0 M0 outs) := by
  rcases AS with _ | ⟨⟨e | e | r | c, t⟩, _ | ⟨⟨a | a | r | c, s⟩, AS⟩⟩ <;> (try exact absurd (show false = true from h) Bool.false_ne_true)
  obtain ⟨f1, f2, f3, f4, f5⟩ := hS
  obtain ⟨i, st, rfl, hi, he, -, hst⟩ := ck_qi f3
  obtain ⟨st, e0, hst'⟩ := ck_qr hst
  subst e0
  replace hst := hst'
  unfold ck_j at h
  dsimp only at h
  cases hq : ck_kd O F r with
  | none => rw [hq] at h; cases h
  | some q =>
    rw [hq] at h
    dsimp only at h
    obtain ⟨h1, h2⟩ := ck_kd_s f1 f4 hq
    rw [Bool.and_eq_true] at h
    obtain ⟨h0, h⟩ := h
    simp only [Bool.and_eq_true, beq_iff_eq, decide_eq_true_eq] at h0
    obtain ⟨h3, h4, h5, h6⟩ := h0
    have he1 := he.1
    have he2 := he.2.1
    have hg := gm_p_aald (X := X) (LX := LX) (d := d) (L := L) (st := st) (n := n) (K := K) (R := R) (M := M) (e0 := i) hat h1 (by rw [h2]; exact h3) (by rw [gm_ir_w hi, h2]; omega)
    rw [gm_ir_w hi] at hg
    have h7 := List.all_eq_true.mp h (i - e.1).toNat (List.mem_range.mpr (by omega))
    have h8 : e.1 + ((i - e.1).toNat : Int) = i := by omega
    rw [h8] at h7
    cases hf : ck_fR O F r i with
    | some v =>
      rw [hf] at h7
      rw [(ck_fR_s f1 f4 hf).2] at hg
      exact gm_sz hg (hk _ _ _ _ _ _ _ _ _ _ _ _ h7 ⟨f1, f2, ck_pr hst, f4, f5⟩)
    | none =>
      rw [hf] at h7
      cases h7
theorem ck_j_iast   (hat : gm_at mi pc = some (.iastore)) (hS : ck_St O σ W n0 K0 R0 M0 AL AS F L st n K R M) (hk : ck_On O X LX σ mi d W n0 K0 R0 M0 (ck_Q O σ0 W n0 K0 R0 M0 outs) k) (h : ck_j O lx XF E mi d n0 W outs bc bs pc AL AS n F k (.iastore) = true) : gm_Wp X LX d bc bs mi pc L st n K R M (ck_Q O σ0 W n0 K0 R0 M0 outs) := by
  rcases AS with _ | ⟨⟨a | a | v | c, t⟩, _ | ⟨⟨e | e | r | c, s⟩, _ | ⟨⟨b | b | r | c, s'⟩, AS⟩⟩⟩ <;> (try exact absurd (show false = true from h) Bool.false_ne_true)
  · obtain ⟨f1, f2, f3, f4, f5⟩ := hS
    obtain ⟨x, st, rfl, hx, ha, -, hst⟩ := ck_qi f3
    obtain ⟨i, st, rfl, hi, he, -, hst⟩ := ck_qi hst
    obtain ⟨st, e0, hst'⟩ := ck_qr hst
    subst e0
    replace hst := hst'
    unfold ck_j at h
    dsimp only at h
    cases hq : ck_kd O F r with
    | none => rw [hq] at h; cases h
    | some q =>
      rw [hq] at h
      dsimp only at h
      obtain ⟨h1, h2⟩ := ck_kd_s f1 f4 hq
      rw [Bool.and_eq_true] at h
      obtain ⟨h0, h⟩ := h
      simp only [Bool.and_eq_true, beq_iff_eq, decide_eq_true_eq] at h0
      obtain ⟨h3, h4, h5, h6, ht⟩ := h0
      have hi1 := he.1
      have hi2 := he.2.1
      have hg := gm_p_iast (X := X) (LX := LX) (d := d) (L := L) (st := st) (n := n) (K := K) (R := R) (M := M) (e0 := i) (x := x) hat h1 (by rw [h2]; exact h3) (by rw [gm_ir_w hi, h2]; omega)
      rw [gm_ir_w hi] at hg
      exact gm_sz hg (hk _ _ _ _ _ _ _ _ _ _ _ _ h ⟨gm_Fx_M f1 ht hi1 hi2 ha.1 ha.2.1, f2, ck_sh_s hst, ck_upT_s f4 h1.2 hi1 hi2 hx ha, ck_fr_M f5 h6 hi1 hi2⟩)
theorem ck_j_bast   (hat : gm_at mi pc = some (.bastore)) (hS : ck_St O σ W n0 K0 R0 M0 AL AS F L st n K R M) (hk : ck_On O X LX σ mi d W n0 K0 R0 M0 (ck_Q O σ0 W n0 K0 R0 M0 outs) k) (h : ck_j O lx XF E mi d n0 W outs bc bs pc AL AS n F k (.bastore) = true) : gm_Wp X LX d bc bs mi pc L st n K R M (ck_Q O σ0 W n0 K0 R0 M0 outs) := by
  rcases AS with _ | ⟨⟨a | a | v | c, t⟩, _ | ⟨⟨e | e | r | c, s⟩, _ | ⟨⟨b | b | r | c, s'⟩, AS⟩⟩⟩ <;> (try exact absurd (show false = true from h) Bool.false_ne_true)
  · obtain ⟨f1, f2, f3, f4, f5⟩ := hS
    obtain ⟨x, st, rfl, hx, ha, -, hst⟩ := ck_qi f3
    obtain ⟨i, st, rfl, hi, he, -, hst⟩ := ck_qi hst
    obtain ⟨st, e0, hst'⟩ := ck_qr hst
    subst e0
    replace hst := hst'
    unfold ck_j at h
    dsimp only at h
    cases hq : ck_kd O F r with
    | none => rw [hq] at h; cases h
    | some q =>
      rw [hq] at h
      dsimp only at h
      obtain ⟨h1, h2⟩ := ck_kd_s f1 f4 hq
      rw [Bool.and_eq_true] at h
      obtain ⟨h0, h⟩ := h
      simp only [Bool.and_eq_true, beq_iff_eq, decide_eq_true_eq] at h0
      obtain ⟨h3, h4, h5, h6, ht⟩ := h0
      have hi1 := he.1
      have hi2 := he.2.1
      have hg := gm_p_bast (X := X) (LX := LX) (d := d) (L := L) (st := st) (n := n) (K := K) (R := R) (M := M) (e0 := i) (x := x) hat h1 (by rw [h2]; exact h3) (by rw [gm_ir_w hi, h2]; omega)
      rw [gm_ir_w hi] at hg
      have hb0 : -128 ≤ gm_wb x ∧ gm_wb x ≤ 127 := by unfold gm_wb; omega
      have hFb : gm_Fx O n K R (gm_uM M r i (gm_wb x)) := by
        split at ht
        · rename_i e9
          have h9 : gm_wb x = x := by
            have := ha.1
            have := ha.2.1
            unfold gm_wb
            omega
          rw [h9]
          exact gm_Fx_M f1 ht hi1 hi2 ha.1 ha.2.1
        · exact gm_Fx_M f1 ht hi1 hi2 hb0.1 hb0.2
      refine gm_sz hg (hk _ _ _ _ _ _ _ _ _ _ _ _ h ⟨hFb, f2, ck_sh_s hst, ck_upT_s f4 h1.2 hi1 hi2 (by unfold gm_ir; omega) ?_, ck_fr_M f5 h6 hi1 hi2⟩)
      split
      · rename_i e9
        have h9 : gm_wb x = x := by
          have := ha.1
          have := ha.2.1
          unfold gm_wb
          omega
        rw [h9]
        exact ha
      · exact ⟨hb0.1, hb0.2, ck_gt_none⟩
theorem ck_j_last   (hat : gm_at mi pc = some (.lastore)) (hS : ck_St O σ W n0 K0 R0 M0 AL AS F L st n K R M) (hk : ck_On O X LX σ mi d W n0 K0 R0 M0 (ck_Q O σ0 W n0 K0 R0 M0 outs) k) (h : ck_j O lx XF E mi d n0 W outs bc bs pc AL AS n F k (.lastore) = true) : gm_Wp X LX d bc bs mi pc L st n K R M (ck_Q O σ0 W n0 K0 R0 M0 outs) := by
  rcases AS with _ | ⟨⟨a | a | v | c, t⟩, _ | ⟨⟨e | e | r | c, s⟩, _ | ⟨⟨b | b | r | c, s'⟩, AS⟩⟩⟩ <;> (try exact absurd (show false = true from h) Bool.false_ne_true)
  · obtain ⟨f1, f2, f3, f4, f5⟩ := hS
    obtain ⟨x, st, rfl, hx, ha, hst⟩ := ck_ql f3
    obtain ⟨i, st, rfl, hi, he, -, hst⟩ := ck_qi hst
    obtain ⟨st, e0, hst'⟩ := ck_qr hst
    subst e0
    replace hst := hst'
    unfold ck_j at h
    dsimp only at h
    cases hq : ck_kd O F r with
    | none => rw [hq] at h; cases h
    | some q =>
      rw [hq] at h
      dsimp only at h
      obtain ⟨h1, h2⟩ := ck_kd_s f1 f4 hq
      rw [Bool.and_eq_true] at h
      obtain ⟨h0, h⟩ := h
      simp only [Bool.and_eq_true, beq_iff_eq, decide_eq_true_eq] at h0
      obtain ⟨h3, h4, h5, h6, ht⟩ := h0
      have hi1 := he.1
      have hi2 := he.2.1
      have hg := gm_p_last (X := X) (LX := LX) (d := d) (L := L) (st := st) (n := n) (K := K) (R := R) (M := M) (e0 := i) (x := x) hat h1 (by rw [h2]; exact h3) (by rw [gm_ir_w hi, h2]; omega)
      rw [gm_ir_w hi] at hg
      split at h
      · rename_i e9
        exact gm_sz hg (hk _ _ _ _ _ _ _ _ _ _ _ _ h ⟨gm_Fx_E f1 (by rw [Bool.and_eq_true]; exact ht), f2, ck_sh_s hst, ck_up_s f4 h1.2 hi1 hi2 (ck_in_s ha e9) ha, ck_fr_M f5 h6 hi1 hi2⟩)
      · refine gm_sz hg (hk _ _ _ _ _ _ _ _ _ _ _ _ h ⟨gm_Fx_E f1 (by rw [Bool.and_eq_true]; exact ht), f2, ck_sh_s hst, ⟨f4.1, f4.2.1, fun p hp => ?_⟩, ck_fr_M f5 h6 hi1 hi2⟩)
        obtain ⟨h7, h8⟩ := List.mem_filter.mp hp
        have h9 := f4.2.2 p h7
        refine ⟨h9.1, fun j a1 a2 => ?_⟩
        unfold gm_uM
        rw [if_neg (by rintro ⟨rfl, -⟩; simp at h8)]
        exact h9.2 j a1 a2
theorem ck_j_aast   (hat : gm_at mi pc = some (.aastore)) (hS : ck_St O σ W n0 K0 R0 M0 AL AS F L st n K R M) (hk : ck_On O X LX σ mi d W n0 K0 R0 M0 (ck_Q O σ0 W n0 K0 R0 M0 outs) k) (h : ck_j O lx XF E mi d n0 W outs bc bs pc AL AS n F k (.aastore) = true) : gm_Wp X LX d bc bs mi pc L st n K R M (ck_Q O σ0 W n0 K0 R0 M0 outs) := by
  rcases AS with _ | ⟨⟨a | a | v | c, t⟩, _ | ⟨⟨e | e | r | c, s⟩, _ | ⟨⟨b | b | r | c, s'⟩, AS⟩⟩⟩ <;> (try exact absurd (show false = true from h) Bool.false_ne_true)
  · obtain ⟨f1, f2, f3, f4, f5⟩ := hS
    obtain ⟨st, rfl, hst⟩ := ck_qr f3
    obtain ⟨i, st, rfl, hi, he, -, hst⟩ := ck_qi hst
    obtain ⟨st, e0, hst'⟩ := ck_qr hst
    subst e0
    replace hst := hst'
    unfold ck_j at h
    dsimp only at h
    split at h
    · rename_i q p hq hp
      obtain ⟨h1, h2⟩ := ck_kd_s f1 f4 hq
      obtain ⟨g1, g2⟩ := ck_kd_s f1 f4 hp
      rw [Bool.and_eq_true] at h
      obtain ⟨h0, h⟩ := h
      simp only [Bool.and_eq_true, beq_iff_eq, decide_eq_true_eq, Option.isNone_iff_eq_none] at h0
      obtain ⟨h3, h4, h5, h6, h7, h8, h9⟩ := h0
      have hi1 := ck_sg_s he h5
      have hg := gm_p_aast (X := X) (LX := LX) (d := d) (L := L) (st := st) (n := n) (K := K) (R := R) (M := M) (e0 := i) (r := v) (ci := 1) hat h1 (by rw [h2]; exact h3) (by rw [gm_ir_w hi, h2]; omega) g1 (by rw [g2]; exact h4) (by decide) gm_cn1
      rw [gm_ir_w hi] at hg
      rw [hi1] at hg ⊢
      exact gm_sz hg (hk _ _ _ _ _ _ _ _ _ _ _ _ h ⟨gm_Fx_R f1 h8, f2, hst, ck_upR_s f4 h1.2, ck_fr_R f5 h9⟩)
    · cases h
theorem ck_j_alen  (hlx : ∀ l, lx = some l → l = LX) (hat : gm_at mi pc = some (.arraylength)) (hS : ck_St O σ W n0 K0 R0 M0 AL AS F L st n K R M) (hk : ck_On O X LX σ mi d W n0 K0 R0 M0 (ck_Q O σ0 W n0 K0 R0 M0 outs) k) (h : ck_j O lx XF E mi d n0 W outs bc bs pc AL AS n F k (.arraylength) = true) : gm_Wp X LX d bc bs mi pc L st n K R M (ck_Q O σ0 W n0 K0 R0 M0 outs) := by
  rcases AS with _ | ⟨⟨a | a | r | c, s⟩, AS⟩ <;> (try exact absurd (show false = true from h) Bool.false_ne_true)
  · obtain ⟨f1, f2, f3, f4, f5⟩ := hS
    obtain ⟨st, rfl, hst⟩ := ck_qr f3
    unfold ck_j at h
    dsimp only at h
    cases hq : ck_kd O F r with
    | none => rw [hq] at h; cases h
    | some q =>
      rw [hq] at h
      dsimp only at h
      obtain ⟨h1, h2⟩ := ck_kd_s f1 f4 hq
      simp only [Bool.and_eq_true, decide_eq_true_eq] at h
      obtain ⟨⟨h3, h4⟩, h⟩ := h
      have hg := gm_p_alen (X := X) (LX := LX) (d := d) (L := L) (st := st) (n := n) (K := K) (R := R) (M := M) hat h1 (by rw [h2]; exact h3)
      rw [h2] at hg
      exact gm_sz hg (hk _ _ _ _ _ _ _ _ _ _ _ _ h ⟨f1, f2, ck_pi (ck_cvk_i h4) (ck_one_s _) (s := none) trivial hst, f4, f5⟩)
  · obtain ⟨f1, f2, f3, f4, f5⟩ := hS
    obtain ⟨st, rfl, hst⟩ := ck_qo f3
    unfold ck_j at h
    dsimp only at h
    cases hl9 : lx with
    | none => rw [hl9] at h; cases h
    | some l =>
    have hl8 := hlx l hl9
    subst hl8
    rw [hl9] at h
    dsimp only at h
    simp only [Bool.and_eq_true, beq_iff_eq] at h
    obtain ⟨⟨h3, h4⟩, h⟩ := h
    subst h3
    have hg := gm_p_slen (X := X) (LX := l) (d := d) (L := L) (st := st) (n := n) (K := K) (R := R) (M := M) hat
    have h9 : ck_gs σ L M ((.inl (ck_one (l : Int)), none) :: AS) (gm_vi (l : Int) :: st) := ck_pi (ck_cvk_i h4) (ck_one_s (l : Int)) (s := none) trivial hst
    exact gm_sz hg (hk bc bs (pc + 1) AL _ n F L _ K R M h ⟨f1, f2, h9, f4, f5⟩)
theorem ck_j_new {ix : Nat} (hs : ∀ s, s < 100 → σ s = σ0 s) (hat : gm_at mi pc = some (.new ix)) (hS : ck_St O σ W n0 K0 R0 M0 AL AS F L st n K R M) (hk : ck_On O X LX σ mi d W n0 K0 R0 M0 (ck_Q O σ0 W n0 K0 R0 M0 outs) k) (h : ck_j O lx XF E mi d n0 W outs bc bs pc AL AS n F k (.new ix) = true) : gm_Wp X LX d bc bs mi pc L st n K R M (ck_Q O σ0 W n0 K0 R0 M0 outs) := by
  obtain ⟨f1, f2, f3, f4, f5⟩ := hS
  unfold ck_j at h
  dsimp only at h
  cases hn : gm_new (gm_ow mi) ix with
  | some ci =>
    rw [hn] at h
    dsimp only at h
    simp only [Bool.and_eq_true, decide_eq_true_eq] at h
    obtain ⟨⟨⟨h1, h2⟩, h9⟩, h⟩ := h
    refine gm_sp (gm_p_new h9 hat hn) h1 h2 (hk _ _ _ _ _ _ _ _ _ _ _ _ h ⟨gm_Fx_n f1, f2, ?_, ck_new_s f4 ck_nlr, ck_fr_n f5⟩)
    exact ck_pr (ck_sh_s f3)
  | none =>
    rw [hn] at h
    dsimp only at h
    cases hx : gm_isx mi pc ix with
    | none => rw [hx] at h; cases h
    | some x =>
      rw [hx] at h
      dsimp only at h
      simp only [Bool.and_eq_true, decide_eq_true_eq, List.isEmpty_iff] at h
      obtain ⟨⟨hh, h1, h2, h3, h4⟩, h⟩ := h
      obtain ⟨ic, is, id, lw, a1, a2, a3, a4, a5, a6⟩ := gm_isx_of hx
      exact gm_throw hh hat a1 a2 a3 a4 a5 a6 (ck_sum8_s f3 h2) h1 h3 h4 (ck_end_s (how := .inl x) hs f1 f4 f5 rfl h)
theorem ck_j_newa {at0 : ArrayType}  (hat : gm_at mi pc = some (.newarray at0)) (hS : ck_St O σ W n0 K0 R0 M0 AL AS F L st n K R M) (hk : ck_On O X LX σ mi d W n0 K0 R0 M0 (ck_Q O σ0 W n0 K0 R0 M0 outs) k) (h : ck_j O lx XF E mi d n0 W outs bc bs pc AL AS n F k (.newarray at0) = true) : gm_Wp X LX d bc bs mi pc L st n K R M (ck_Q O σ0 W n0 K0 R0 M0 outs) := by
  unfold ck_j at h
  dsimp only at h
  split at h
  · rename_i e s AS kd hkd
    obtain ⟨f1, f2, f3, f4, f5⟩ := hS
    obtain ⟨x, st, rfl, hx, ha, -, hst⟩ := ck_qi f3
    simp only [Bool.and_eq_true, decide_eq_true_eq] at h
    obtain ⟨⟨h1, h2, h3, h4, h5, h9⟩, h⟩ := h
    have h6 := ck_sg_s ha h1
    subst h6
    have hkd2 : (at0 = .int ∧ kd = 0) ∨ (at0 = .byte ∧ kd = 1) ∨ (at0 = .long ∧ kd = 2) := by
      cases at0 <;> simp at hkd <;> subst hkd <;> simp
    have hg := gm_p_newa (X := X) (LX := LX) (d := d) (L := L) (st := st) (n := n) (K := K) (R := R) (M := M) (e0 := e.1) h9 hat hkd2 (by rw [gm_ir_w hx]; exact ⟨h2, h3⟩)
    rw [gm_ir_w hx] at hg
    exact gm_sp hg h4 h5 (hk _ _ _ _ _ _ _ _ _ _ _ _ h ⟨gm_Fx_n f1, f2, ck_pr (ck_sh_s hst), ck_new_s f4 ck_nl1, ck_fr_n f5⟩)
  · cases h
theorem ck_j_anew {ix : Nat}  (hat : gm_at mi pc = some (.anewarray ix)) (hS : ck_St O σ W n0 K0 R0 M0 AL AS F L st n K R M) (hk : ck_On O X LX σ mi d W n0 K0 R0 M0 (ck_Q O σ0 W n0 K0 R0 M0 outs) k) (h : ck_j O lx XF E mi d n0 W outs bc bs pc AL AS n F k (.anewarray ix) = true) : gm_Wp X LX d bc bs mi pc L st n K R M (ck_Q O σ0 W n0 K0 R0 M0 outs) := by
  rcases AS with _ | ⟨⟨a | a | r | c, s⟩, AS⟩ <;> (try exact absurd (show false = true from h) Bool.false_ne_true)
  obtain ⟨f1, f2, f3, f4, f5⟩ := hS
  obtain ⟨x, st, rfl, hx, ha, -, hst⟩ := ck_qi f3
  have h : ((decide (gm_new (gm_ow mi) ix = some 1) && (ck_sg a && (decide (0 ≤ a.1) && (decide (a.1 < 60000000) && (decide (1 ≤ bc) && (decide (a.1.toNat ≤ bs) && decide (n + 1 < 100000))))))) && k (bc - 1) (bs - a.1.toNat) (pc + 3) AL ((.inr (.inr (.inl (n + 1))), none) :: ck_sh AS) (n + 1) ((n + 1, 3, a.1.toNat) :: F.1, F.2.1, F.2.2)) = true := h
  simp only [Bool.and_eq_true, decide_eq_true_eq] at h
  obtain ⟨⟨h0, h1, h2, h3, h4, h5, h9⟩, h⟩ := h
  have h6 := ck_sg_s ha h1
  subst h6
  have hg := gm_p_anew (X := X) (LX := LX) (d := d) (L := L) (st := st) (n := n) (K := K) (R := R) (M := M) (e0 := a.1) h9 hat h0 gm_cn1 (by rw [gm_ir_w hx]; exact ⟨h2, h3⟩)
  rw [gm_ir_w hx] at hg
  exact gm_sp hg h4 h5 (hk _ _ _ _ _ _ _ _ _ _ _ _ h ⟨gm_Fx_n f1, f2, ck_pr (ck_sh_s hst), ck_new_s (l := []) f4 ck_nl0, ck_fr_n f5⟩)
theorem ck_j_ldc {ix : Nat}  (hat : gm_at mi pc = some (.ldc ix)) (hS : ck_St O σ W n0 K0 R0 M0 AL AS F L st n K R M) (hk : ck_On O X LX σ mi d W n0 K0 R0 M0 (ck_Q O σ0 W n0 K0 R0 M0 outs) k) (h : ck_j O lx XF E mi d n0 W outs bc bs pc AL AS n F k (.ldc ix) = true) : gm_Wp X LX d bc bs mi pc L st n K R M (ck_Q O σ0 W n0 K0 R0 M0 outs) := by
  obtain ⟨f1, f2, f3, f4, f5⟩ := hS
  unfold ck_j at h
  dsimp only at h
  cases hv : gm_ild (gm_ow mi) ix with
  | some q =>
    rw [hv] at h
    obtain ⟨q1, q2⟩ := q
    simp only [Bool.and_eq_true, beq_iff_eq] at h
    obtain ⟨⟨h1, h2⟩, h⟩ := h
    subst h1
    exact gm_sz (gm_p_ldci hat (.inl rfl) hv) (hk _ _ _ _ _ _ _ _ _ _ _ _ h ⟨f1, f2, ck_pi (ck_cvk_i h2) (ck_one_s _) (s := none) trivial f3, f4, f5⟩)
  | none =>
    rw [hv] at h
    dsimp only at h
    cases hw : gm_sld (gm_ow mi) ix with
    | some id =>
      rw [hw] at h
      exact gm_sz (gm_p_ldcs hat (.inl rfl) hw) (hk _ _ _ _ _ _ _ _ _ _ _ _ h ⟨f1, f2, ck_po f3, f4, f5⟩)
    | none => rw [hw] at h; cases h
theorem ck_j_ldc_w {ix : Nat}  (hat : gm_at mi pc = some (.ldc_w ix)) (hS : ck_St O σ W n0 K0 R0 M0 AL AS F L st n K R M) (hk : ck_On O X LX σ mi d W n0 K0 R0 M0 (ck_Q O σ0 W n0 K0 R0 M0 outs) k) (h : ck_j O lx XF E mi d n0 W outs bc bs pc AL AS n F k (.ldc_w ix) = true) : gm_Wp X LX d bc bs mi pc L st n K R M (ck_Q O σ0 W n0 K0 R0 M0 outs) := by
  obtain ⟨f1, f2, f3, f4, f5⟩ := hS
  unfold ck_j at h
  dsimp only at h
  cases hv : gm_ild (gm_ow mi) ix with
  | some q =>
    rw [hv] at h
    obtain ⟨q1, q2⟩ := q
    simp only [Bool.and_eq_true, beq_iff_eq] at h
    obtain ⟨⟨h1, h2⟩, h⟩ := h
    subst h1
    exact gm_sz (gm_p_ldci hat (.inr rfl) hv) (hk _ _ _ _ _ _ _ _ _ _ _ _ h ⟨f1, f2, ck_pi (ck_cvk_i h2) (ck_one_s _) (s := none) trivial f3, f4, f5⟩)
  | none =>
    rw [hv] at h
    dsimp only at h
    cases hw : gm_sld (gm_ow mi) ix with
    | some id =>
      rw [hw] at h
      exact gm_sz (gm_p_ldcs hat (.inr rfl) hw) (hk _ _ _ _ _ _ _ _ _ _ _ _ h ⟨f1, f2, ck_po f3, f4, f5⟩)
    | none => rw [hw] at h; cases h
theorem ck_j_ldcl {ix : Nat}  (hat : gm_at mi pc = some (.ldc2_w ix)) (hS : ck_St O σ W n0 K0 R0 M0 AL AS F L st n K R M) (hk : ck_On O X LX σ mi d W n0 K0 R0 M0 (ck_Q O σ0 W n0 K0 R0 M0 outs) k) (h : ck_j O lx XF E mi d n0 W outs bc bs pc AL AS n F k (.ldc2_w ix) = true) : gm_Wp X LX d bc bs mi pc L st n K R M (ck_Q O σ0 W n0 K0 R0 M0 outs) := by
  obtain ⟨f1, f2, f3, f4, f5⟩ := hS
  unfold ck_j at h
  dsimp only at h
  cases hv : gm_ild (gm_ow mi) ix with
  | some q =>
    rw [hv] at h
    obtain ⟨q1, q2⟩ := q
    simp only [Bool.and_eq_true, beq_iff_eq] at h
    obtain ⟨⟨h1, h2⟩, h⟩ := h
    subst h1
    exact gm_sz (gm_p_ldcl hat hv) (hk _ _ _ _ _ _ _ _ _ _ _ _ h ⟨f1, f2, ck_pl (ck_cvk_l h2) (ck_one_s _) f3, f4, f5⟩)
  | none => rw [hv] at h; cases h
theorem ck_j_stat {ix : Nat} (hE : ck_nmu O ∧ ck_OkE O X LX E) (hs : ∀ s, s < 100 → σ s = σ0 s) (hat : gm_at mi pc = some (.invokestatic ix)) (hS : ck_St O σ W n0 K0 R0 M0 AL AS F L st n K R M) (hk : ck_On O X LX σ mi d W n0 K0 R0 M0 (ck_Q O σ0 W n0 K0 R0 M0 outs) k) (h : ck_j O lx XF E mi d n0 W outs bc bs pc AL AS n F k (.invokestatic ix) = true) : gm_Wp X LX d bc bs mi pc L st n K R M (ck_Q O σ0 W n0 K0 R0 M0 outs) := by
  unfold ck_j at h
  dsimp only at h
  cases hc : gm_cal (gm_ow mi) ix with
  | none =>
    rw [hc] at h
    dsimp only at h
    rw [Bool.and_eq_true] at h
    obtain ⟨hac, h⟩ := h
    split at h
    · rename_i m s1 dp s2 k2 s3 sp s4 k1 s5 AS'
      split at h
      · rename_i q1 q2 e1 e2
        obtain ⟨f1, f2, f3, f4, f5⟩ := hS
        rw [Bool.and_eq_true] at h
        obtain ⟨h0, h⟩ := h
        simp only [Bool.and_eq_true, beq_iff_eq, decide_eq_true_eq] at h0
        obtain ⟨a1, a2, a3, a4, a5, a6, a7, a8, a9, a10, a11⟩ := h0
        obtain ⟨xm, st1, t1, im, gm1, -, g1⟩ := ck_qi f3
        subst t1
        obtain ⟨xd, st2, t2, id1, gd1, -, g2⟩ := ck_qi g1
        subst t2
        obtain ⟨st3, t3, g3⟩ := ck_qr g2
        subst t3
        obtain ⟨xs, st4, t4, is1, gs1, -, g4⟩ := ck_qi g3
        subst t4
        obtain ⟨st5, t5, g5⟩ := ck_qr g4
        subst t5
        obtain ⟨b1, b2⟩ := ck_kd_s f1 f4 e1
        obtain ⟨b3, b4⟩ := ck_kd_s f1 f4 e2
        have c1 := gm1.1
        have c2 := gm1.2.1
        have c3 := gd1.1
        have c4 := gd1.2.1
        have c5 := gs1.1
        have c6 := gs1.2.1
        have hg := gm_p_acopy (X := X) (LX := LX) (d := d) (L := L) (st := st5) (n := n) (K := K) (R := R) (M := M) (sp := xs) (dp := xd) (m := xm) hat hac b1 (by rw [b2]; exact a1) b3 (by rw [b4]; exact a2) (gm_ir_w is1) (gm_ir_w id1) (gm_ir_w im) (by omega) (by omega) (by omega) (by rw [b2]; omega) (by rw [b4]; omega) (ck_sum8_s g5 a9) a10
        refine gm_sz hg (hk _ _ _ _ _ _ _ _ _ _ _ _ h ⟨⟨f1.1, f1.2.1, fun a b hv => ?_, f1.2.2.2.1, O.2.2.hJ K K M _ (fun _ _ _ => rfl) (fun a b hv j j1 j2 => ?_) f1.2.2.2.2⟩, f2, ck_sh_s g5, ⟨f4.1, f4.2.1, fun p hp => ?_⟩, ⟨f5.1, f5.2.1, fun a b ha hb => ?_, f5.2.2.2⟩⟩)
        · obtain ⟨v1, v2⟩ := f1.2.2.1 a b hv
          refine ⟨v1, fun j j1 j2 => ?_⟩
          unfold gm_cpM
          split
          · rename_i q
            obtain ⟨rfl, q2, q3⟩ := q
            cases hr : ck_rd O F k1 sp.1 (sp.2.1 + m.2.1 - 1) with
            | none =>
              rw [hr] at a11
              rw [Bool.and_eq_true] at a11
              rw [List.isEmpty_iff.mp a11.1] at hv
              cases hv
            | some z =>
              rw [hr] at a11
              have z1 := (ck_rd_s f1 f4 hr).2 (xs + (j - xd)) (by omega) (by omega)
              dsimp only at a11
              rw [gm_tyw_def] at a11
              rw [Bool.and_eq_true] at a11
              have z2 := List.all_eq_true.mp a11.2 b hv
              simp only [Bool.or_eq_true, Bool.and_eq_true, decide_eq_true_eq] at z2
              have z3 := z1.2.1
              have z4 := z1.2.2.1
              refine ⟨z1.1, ?_, ?_⟩
              · rcases z2 with z2 | z2 | z2
                · omega
                · omega
                · omega
              · rcases z2 with z2 | z2 | z2
                · omega
                · omega
                · omega
          · exact v2 j j1 j2
        · unfold gm_cpM
          rw [if_neg]
          rintro ⟨rfl, q2, q3⟩
          cases hr : ck_rd O F k1 sp.1 (sp.2.1 + m.2.1 - 1) with
          | none =>
            rw [hr] at a11
            rw [Bool.and_eq_true] at a11
            rw [List.isEmpty_iff.mp a11.2] at hv
            cases hv
          | some z =>
            rw [hr] at a11
            dsimp only at a11
            rw [gm_tyw_def, gm_fpw_def] at a11
            rw [Bool.and_eq_true] at a11
            have z2 := List.all_eq_true.mp a11.1 b hv
            simp only [Bool.or_eq_true, decide_eq_true_eq] at z2
            omega
        · obtain ⟨r, hr, r1, r2, r3⟩ := ck_cws_s (ws := [(k2, dp.1, dp.2.1 + m.2.1 - 1)]) (l := F.2.2) hp
          have r4 := f4.2.2 r hr
          rw [r1, r2]
          refine ⟨r4.1, fun j j1 j2 => ?_⟩
          obtain ⟨r5, r6⟩ := r3 j j1 j2
          unfold gm_cpM
          rw [if_neg]
          · exact r4.2 j r5.1 r5.2
          · intro q
            exact r6 _ List.mem_cons_self ⟨q.1.symm, by dsimp only; omega, by dsimp only; omega⟩
        · rw [← f5.2.2.1 a b ha hb]
          unfold gm_cpM
          rw [if_neg]
          intro q
          rw [ck_okW_def] at a8
          simp only [Bool.or_eq_true, decide_eq_true_eq, List.any_eq_true, Bool.and_eq_true, beq_iff_eq] at a8
          rcases a8 with a8 | ⟨w, w1, w2, w3, w4⟩
          · have := q.1
            omega
          · exact hb w w1 ⟨w2.trans q.1.symm, by omega, by omega⟩
      · cases h
    · cases h
  | some q =>
    rw [hc] at h
    obtain ⟨kd, mj⟩ := q
    dsimp only at h
    by_cases e5 : kd = 5
    · subst e5
      rw [if_pos rfl, Bool.and_eq_true] at h
      obtain ⟨h2, h⟩ := h
      simp only [Bool.and_eq_true, decide_eq_true_eq, List.isEmpty_iff, Bool.not_eq_true', List.isEmpty_eq_false_iff] at h2
      obtain ⟨hh, hhj, e1, e3, e4, e5, e6⟩ := h2
      obtain ⟨t1, t2, t3, t4⟩ := ck_take (m := gm_na mj) hS.2.2.1
      refine ck_call_s (pc' := pc + 3) hs hE hS t2 t4 hk (fun d' bc' bs' a1 a2 a3 a4 => ?_) h
      have := gm_c_statX (bc := bc) (bs := bs) hat hc e1 hh hhj (as := (st.take (gm_na mj)).reverse) (st := st.drop (gm_na mj)) (by rw [List.length_reverse, t1]; exact e3) (t3 e4) (by rw [List.length_reverse, t1, e3]; exact e5) (ck_sum8_s t4 e6) a1 a2 a3 (gm_Wp_mono (fun o n K R M hq => gm_cont_H hh hq) a4)
      rw [List.reverse_reverse, List.take_append_drop] at this
      exact this
    rw [if_neg e5] at h
    rw [Bool.and_eq_true] at h
    obtain ⟨h0, h⟩ := h
    simp only [Bool.and_eq_true, beq_iff_eq, decide_eq_true_eq] at h0
    obtain ⟨rfl, h1⟩ := h0
    split at h
    · rename_i e
      subst e
      rcases AS with _ | ⟨⟨b | b | r | c, t⟩, _ | ⟨⟨a | a | r' | c', s⟩, AS⟩⟩ <;> (try cases h)
      obtain ⟨f1, f2, f3, f4, f5⟩ := hS
      obtain ⟨y, st, rfl, hy, hb, -, hst⟩ := ck_qi f3
      obtain ⟨x, st, rfl, hx, ha, -, hst⟩ := ck_qi hst
      dsimp only at h
      rw [Bool.and_eq_true] at h
      obtain ⟨a1, a2, -⟩ := ha
      obtain ⟨b1, b2, -⟩ := hb
      refine gm_sz (gm_p_max hat hc (gm_ir_w hx) (gm_ir_w hy) (ck_sum8_s hst h.1) h1) (hk _ _ _ _ _ _ _ _ _ _ _ _ h.2 ⟨f1, f2, ck_pi ?_ ⟨?_, ?_, ck_gt_none⟩ (s := none) trivial hst, f4, f5⟩)
      · unfold gm_ir at *; omega
      · dsimp only; split <;> omega
      · dsimp only; split <;> omega
    · split at h
      · rename_i e
        subst e
        rcases AS with _ | ⟨⟨b | b | r | c, t⟩, _ | ⟨⟨a | a | r' | c', s⟩, AS⟩⟩ <;> (try cases h)
        obtain ⟨f1, f2, f3, f4, f5⟩ := hS
        obtain ⟨y, st, rfl, hy, hb, -, hst⟩ := ck_qi f3
        obtain ⟨x, st, rfl, hx, ha, -, hst⟩ := ck_qi hst
        dsimp only at h
        rw [Bool.and_eq_true] at h
        obtain ⟨a1, a2, -⟩ := ha
        obtain ⟨b1, b2, -⟩ := hb
        refine gm_sz (gm_p_min hat hc (gm_ir_w hx) (gm_ir_w hy) (ck_sum8_s hst h.1) h1) (hk _ _ _ _ _ _ _ _ _ _ _ _ h.2 ⟨f1, f2, ck_pi ?_ ⟨?_, ?_, ck_gt_none⟩ (s := none) trivial hst, f4, f5⟩)
        · unfold gm_ir at *; omega
        · dsimp only; split <;> omega
        · dsimp only; split <;> omega
      · rw [Bool.and_eq_true] at h
        obtain ⟨h2, h⟩ := h
        simp only [Bool.and_eq_true, decide_eq_true_eq, List.isEmpty_iff] at h2
        obtain ⟨hh, e1, e3, e4, e5, e6⟩ := h2
        obtain ⟨t1, t2, t3, t4⟩ := ck_take (m := gm_na mj) hS.2.2.1
        refine ck_call_s (pc' := pc + 3) hs hE hS t2 t4 hk (fun d' bc' bs' a1 a2 a3 a4 => ?_) h
        have := gm_c_stat (bc := bc) (bs := bs) hat hc e1 hh (as := (st.take (gm_na mj)).reverse) (st := st.drop (gm_na mj)) (by rw [List.length_reverse, t1]; exact e3) (t3 e4) (by rw [List.length_reverse, t1, e3]; exact e5) (ck_sum8_s t4 e6) a1 a2 a3 (gm_Wp_mono (fun o n K R M hq => gm_cont_H hh hq) a4)
        rw [List.reverse_reverse, List.take_append_drop] at this
        exact this
theorem ck_j_virt {ix : Nat} (hE : ck_nmu O ∧ ck_OkE O X LX E) (hs : ∀ s, s < 100 → σ s = σ0 s) (hat : gm_at mi pc = some (.invokevirtual ix)) (hS : ck_St O σ W n0 K0 R0 M0 AL AS F L st n K R M) (hk : ck_On O X LX σ mi d W n0 K0 R0 M0 (ck_Q O σ0 W n0 K0 R0 M0 outs) k) (h : ck_j O lx XF E mi d n0 W outs bc bs pc AL AS n F k (.invokevirtual ix) = true) : gm_Wp X LX d bc bs mi pc L st n K R M (ck_Q O σ0 W n0 K0 R0 M0 outs) := by
  unfold ck_j at h
  dsimp only at h
  cases hc : gm_cal (gm_ow mi) ix with
  | none =>
    rw [hc] at h
    dsimp only at h
    cases hu : gm_una (gm_ow mi) ix with
    | none => rw [hu] at h; cases h
    | some na =>
      rw [hu] at h
      dsimp only at h
      obtain ⟨t1, t2, t3, t4⟩ := ck_take (m := na) hS.2.2.1
      split at h
      · rename_i r s AS' hd
        rw [hd] at t4
        obtain ⟨st', hst', hst⟩ := ck_qr t4
        cases hq : ck_kd O F r with
        | none => rw [hq] at h; cases h
        | some p =>
          rw [hq] at h
          dsimp only at h
          obtain ⟨g1, g2⟩ := ck_kd_s hS.1 hS.2.2.2.1 hq
          cases hup : gm_up (gm_ow mi) ix (p.1 - 4) with
          | none => rw [hup] at h; cases h
          | some mj =>
            rw [hup] at h
            dsimp only at h
            rw [Bool.and_eq_true] at h
            obtain ⟨h0, h⟩ := h
            simp only [Bool.and_eq_true, decide_eq_true_eq, List.isEmpty_iff] at h0
            obtain ⟨hh, e1, e2, e3, e4, e5, e6⟩ := h0
            refine ck_call_s (pc' := pc + 3) (vs := gm_vr r :: (st.take na).reverse) (as := (.inr (.inr (.inl r))) :: (AS.take na).reverse.map Prod.fst) hs hE hS ⟨_, _, rfl, rfl, t2⟩ hst hk (fun d' bc' bs' a1 a2 a3 a4 => ?_) h
            have := gm_c_up (bc := bc) (bs := bs) hat hup hh (as := (st.take na).reverse) (st := st') g1 (show (K r).1 = (p.1 - 4) + 4 by rw [g2]; omega) (by rw [List.length_reverse, t1, e2, e3]) (t3 e4) (by rw [List.length_reverse, t1, e2]; exact e5) (ck_sum8_s hst e6) a1 a2 a3 (gm_Wp_mono (fun o n K R M hq => gm_cont_H hh hq) a4)
            rw [List.reverse_reverse, ← hst', List.take_append_drop] at this
            exact this
      · cases h
  | some q =>
    rw [hc] at h
    obtain ⟨kd, mj⟩ := q
    dsimp only at h
    split at h
    · rename_i e82
      subst e82
      rcases AS with _ | ⟨⟨a | a | r | id, s⟩, AS⟩ <;> (try exact absurd (show false = true from h) Bool.false_ne_true)
      obtain ⟨f1, f2, f3, f4, f5⟩ := hS
      obtain ⟨st', rfl, hst⟩ := ck_qo f3
      dsimp only at h
      simp only [Bool.and_eq_true, beq_iff_eq, decide_eq_true_eq, List.isEmpty_iff] at h
      obtain ⟨⟨rfl, hh, hid, h8, hd⟩, h⟩ := h
      have h9 := (gm_chk_s hid).1.2
      have h7 : gm_ir (gm_slen id : Int) := by unfold gm_ir; omega
      have := gm_c_vstr (X := X) (LX := LX) (L := L) (n := n) (K := K) (R := R) (M := M) (Q := ck_Q O σ0 W n0 K0 R0 M0 outs) (bc := bc) (bs := bs) (d' := 1) (bc' := 0) (bs' := 0) (mj := 82) (as := []) (st := st') hat hc (by decide +kernel) hh hid (by decide +kernel) (by decide +kernel) (fun _ h => nomatch h) (by decide +kernel) (ck_sum8_s hst h8) hd (Nat.zero_le _) (Nat.zero_le _) (gm_w82 (Nat.le_refl _) hid (hk _ _ _ _ _ _ _ _ _ _ _ _ h ⟨f1, f2, ck_pi h7 (ck_one_s _) (s := none) trivial hst, f4, f5⟩))
      exact this
    split at h
    · rename_i e82 e84
      subst e84
      rcases AS with _ | ⟨⟨e | e | r | c, t⟩, _ | ⟨⟨a | a | r | id, s⟩, AS⟩⟩ <;> (try exact absurd (show false = true from h) Bool.false_ne_true)
      obtain ⟨f1, f2, f3, f4, f5⟩ := hS
      obtain ⟨i, st1, rfl, hi, he, -, hst1⟩ := ck_qi f3
      obtain ⟨st', rfl, hst⟩ := ck_qo hst1
      dsimp only at h
      simp only [Bool.and_eq_true, beq_iff_eq, decide_eq_true_eq, List.isEmpty_iff] at h
      obtain ⟨⟨rfl, hh, hid, h8, hd, hl, hr⟩, h⟩ := h
      have hi1 := he.1
      have hi2 := he.2.1
      have h9 := ((gm_chk_s hid).2 i.toNat (by omega)).2
      have h7 : gm_ir (gm_chv id i.toNat) := by unfold gm_ir; omega
      have h5 : ∀ v ∈ [gm_vi i], ¬ gm_sort v = 1 := fun v hv => by
        rw [List.mem_singleton.mp hv]
        simp [gm_sort]
      have h6 : ck_gi σ (0, 127, []) (gm_chv id i.toNat) := ⟨h9.1, by dsimp only; omega, ck_gt_none⟩
      have := gm_c_vstr (X := X) (LX := LX) (L := L) (n := n) (K := K) (R := R) (M := M) (Q := ck_Q O σ0 W n0 K0 R0 M0 outs) (bc := bc) (bs := bs) (d' := 3) (bc' := 0) (bs' := 0) (mj := 84) (as := [gm_vi i]) (st := st') hat hc (by decide +kernel) hh hid (by decide +kernel) (show 1 = gm_na 84 by decide +kernel) h5 (show 1 + 1 ≤ gm_ml 84 by decide +kernel) (ck_sum8_s hst h8) hd (Nat.zero_le _) (Nat.zero_le _) (gm_w84 (Nat.le_refl _) hid ⟨by omega, by omega⟩ (hk _ _ _ _ _ _ _ _ _ _ _ _ h ⟨f1, f2, ck_pi h7 h6 (s := none) trivial hst, f4, f5⟩))
      exact this
    rw [Bool.and_eq_true] at h
    obtain ⟨h0, h⟩ := h
    simp only [Bool.and_eq_true, beq_iff_eq, decide_eq_true_eq] at h0
    obtain ⟨rfl, e1, e2, e3, e4, e5⟩ := h0
    obtain ⟨t1, t2, t3, t4⟩ := ck_take (m := gm_na mj) hS.2.2.1
    split at h
    · rename_i r s AS' hd
      rw [hd] at t4
      obtain ⟨st', hst', hst⟩ := ck_qr t4
      rw [Bool.and_eq_true, Bool.and_eq_true] at h
      obtain ⟨⟨h1, h2⟩, h⟩ := h
      cases hq : ck_kd O F r with
      | none => rw [hq] at h2; cases h2
      | some p =>
        rw [hq] at h2
        simp only [beq_iff_eq] at h2
        obtain ⟨g1, g2⟩ := ck_kd_s hS.1 hS.2.2.2.1 hq
        refine ck_call_s (pc' := pc + 3) (vs := gm_vr r :: (st.take (gm_na mj)).reverse) (as := (.inr (.inr (.inl r))) :: (AS.take (gm_na mj)).reverse.map Prod.fst) hs hE hS ⟨_, _, rfl, rfl, t2⟩ hst hk (fun d' bc' bs' a1 a2 a3 a4 => ?_) h
        have hmj := (gm_cal_spec hc).1
        have := gm_c_virtH (bc := bc) (bs := bs) hat hc e1 (as := (st.take (gm_na mj)).reverse) (st := st') g1 (by rw [g2]; exact h2) e2 (gm_cio_spec hmj e2) (by rw [List.length_reverse, t1]; exact e3) (t3 e4) (by rw [List.length_reverse, t1, e3]; exact e5) (ck_sum8_s hst h1) a1 a2 a3 a4
        rw [List.reverse_reverse, ← hst', List.take_append_drop] at this
        exact this
    · cases h
theorem ck_j_spec {ix : Nat} (hE : ck_nmu O ∧ ck_OkE O X LX E) (hs : ∀ s, s < 100 → σ s = σ0 s) (hat : gm_at mi pc = some (.invokespecial ix)) (hS : ck_St O σ W n0 K0 R0 M0 AL AS F L st n K R M) (hk : ck_On O X LX σ mi d W n0 K0 R0 M0 (ck_Q O σ0 W n0 K0 R0 M0 outs) k) (h : ck_j O lx XF E mi d n0 W outs bc bs pc AL AS n F k (.invokespecial ix) = true) : gm_Wp X LX d bc bs mi pc L st n K R M (ck_Q O σ0 W n0 K0 R0 M0 outs) := by
  unfold ck_j at h
  dsimp only at h
  split at h
  · rename_i ho
    rcases AS with _ | ⟨⟨a | a | r | c, s⟩, AS⟩ <;> (try cases h)
    obtain ⟨f1, f2, f3, f4, f5⟩ := hS
    obtain ⟨st, rfl, hst⟩ := ck_qr f3
    dsimp only at h
    simp only [Bool.and_eq_true, decide_eq_true_eq] at h
    obtain ⟨⟨h1, h2, h3⟩, h⟩ := h
    exact gm_sz (gm_p_oinit hat ho h3 (ck_sum8_s hst h1) h2) (hk _ _ _ _ _ _ _ _ _ _ _ _ h ⟨f1, f2, hst, f4, f5⟩)
  · cases hc : gm_cal (gm_ow mi) ix with
    | none => rw [hc] at h; cases h
    | some q =>
      rw [hc] at h
      obtain ⟨kd, mj⟩ := q
      dsimp only at h
      rw [Bool.and_eq_true] at h
      obtain ⟨h0, h⟩ := h
      simp only [Bool.and_eq_true, Bool.or_eq_true, beq_iff_eq, decide_eq_true_eq, List.isEmpty_iff] at h0
      obtain ⟨hh, e0, e1, e3, e4, e5⟩ := h0
      obtain ⟨t1, t2, t3, t4⟩ := ck_take (m := gm_na mj) hS.2.2.1
      split at h
      · rename_i r s AS' hd
        rw [hd] at t4
        obtain ⟨st', hst', hst⟩ := ck_qr t4
        rw [Bool.and_eq_true] at h
        obtain ⟨h2, h⟩ := h
        simp only [Bool.and_eq_true, decide_eq_true_eq] at h2
        obtain ⟨h1, h3⟩ := h2
        refine ck_call_s (pc' := pc + 3) (vs := gm_vr r :: (st.take (gm_na mj)).reverse) (as := (.inr (.inr (.inl r))) :: (AS.take (gm_na mj)).reverse.map Prod.fst) hs hE hS ⟨_, _, rfl, rfl, t2⟩ hst hk (fun d' bc' bs' a1 a2 a3 a4 => ?_) h
        have := gm_c_init (bc := bc) (bs := bs) hat hc e0 e1 hh (as := (st.take (gm_na mj)).reverse) (st := st') h3 (by rw [List.length_reverse, t1]; exact e3) (t3 e4) (by rw [List.length_reverse, t1, e3]; exact e5) (ck_sum8_s hst h1) a1 a2 a3 (gm_Wp_mono (fun o n K R M hq => gm_cont_H hh hq) a4)
        rw [List.reverse_reverse, ← hst', List.take_append_drop] at this
        exact this
      · cases h
theorem ck_j_iret  (hs : ∀ s, s < 100 → σ s = σ0 s) (hat : gm_at mi pc = some (.ireturn)) (hS : ck_St O σ W n0 K0 R0 M0 AL AS F L st n K R M) (hk : ck_On O X LX σ mi d W n0 K0 R0 M0 (ck_Q O σ0 W n0 K0 R0 M0 outs) k) (h : ck_j O lx XF E mi d n0 W outs bc bs pc AL AS n F k (.ireturn) = true) : gm_Wp X LX d bc bs mi pc L st n K R M (ck_Q O σ0 W n0 K0 R0 M0 outs) := by
  unfold ck_j at h
  dsimp only at h
  split at h
  · rename_i a s
    obtain ⟨f1, f2, f3, f4, f5⟩ := hS
    obtain ⟨x, st, rfl, hx, ha, hsx, hst⟩ := ck_qi f3
    cases hst
    split at h
    · rename_i e
      cases hg : ck_sgn a s with
      | false =>
        rw [hg] at h
        exact gm_r_int hat (.inl e) (ck_end_s (how := .inr (some (.inl a))) hs f1 f4 f5 ⟨x, rfl, hx, ha⟩ h)
      | true =>
        rw [hg] at h
        have h : (ck_br .lt a s (ck_one 0) none AL F (fun _ F => ck_end O outs (.inr (some (.inl (ck_rf .lt a (ck_one 0))))) n F) && ck_br .ge a s (ck_one 0) none AL F (fun _ F => ck_end O outs (.inr (some (.inl (ck_rf .ge a (ck_one 0))))) n F)) = true := h
        rw [Bool.and_eq_true] at h
        have hS0 : ck_St O σ W n0 K0 R0 M0 AL [] F L [] n K R M := ⟨f1, f2, rfl, f4, f5⟩
        by_cases hx0 : x < 0
        · exact ck_br_s (c := .lt) hS0 hx ha hsx ⟨by decide, by decide⟩ (ck_one_s 0) (t := none) trivial (show gm_cm .lt x 0 from hx0) h.1 (fun AL F hq hS => gm_r_int hat (.inl e) (ck_end_s (how := .inr (some (.inl (ck_rf .lt a (ck_one 0))))) hs hS.1 hS.2.2.2.1 hS.2.2.2.2 ⟨x, rfl, hx, ck_rf_s ha (ck_one_s 0) (show gm_cm .lt x 0 from hx0)⟩ hq))
        · exact ck_br_s (c := .ge) hS0 hx ha hsx ⟨by decide, by decide⟩ (ck_one_s 0) (t := none) trivial (show gm_cm .ge x 0 by show (0 : Int) ≤ x; omega) h.2 (fun AL F hq hS => gm_r_int hat (.inl e) (ck_end_s (how := .inr (some (.inl (ck_rf .ge a (ck_one 0))))) hs hS.1 hS.2.2.2.1 hS.2.2.2.2 ⟨x, rfl, hx, ck_rf_s ha (ck_one_s 0) (show gm_cm .ge x 0 by show (0 : Int) ≤ x; omega)⟩ hq))
    · rename_i e
      simp only [Bool.and_eq_true, decide_eq_true_eq] at h
      have := ha.1
      have := ha.2.1
      exact gm_r_int hat (.inr ⟨e, by omega⟩) (ck_end_s (how := .inr (some (.inl a))) hs f1 f4 f5 ⟨x, rfl, hx, ha⟩ h.2)
    · cases h
  · cases h
theorem ck_j_vret  (hs : ∀ s, s < 100 → σ s = σ0 s) (hat : gm_at mi pc = some (.return_)) (hS : ck_St O σ W n0 K0 R0 M0 AL AS F L st n K R M) (hk : ck_On O X LX σ mi d W n0 K0 R0 M0 (ck_Q O σ0 W n0 K0 R0 M0 outs) k) (h : ck_j O lx XF E mi d n0 W outs bc bs pc AL AS n F k (.return_) = true) : gm_Wp X LX d bc bs mi pc L st n K R M (ck_Q O σ0 W n0 K0 R0 M0 outs) := by
  unfold ck_j at h
  dsimp only at h
  split at h
  · obtain ⟨f1, f2, f3, f4, f5⟩ := hS
    cases f3
    rw [Bool.and_eq_true, Option.isNone_iff_eq_none] at h
    exact gm_r_void hat h.1 (ck_end_s (how := .inr none) hs f1 f4 f5 trivial h.2)
  · cases h
theorem ck_j_aret  (hs : ∀ s, s < 100 → σ s = σ0 s) (hat : gm_at mi pc = some (.areturn)) (hS : ck_St O σ W n0 K0 R0 M0 AL AS F L st n K R M) (hk : ck_On O X LX σ mi d W n0 K0 R0 M0 (ck_Q O σ0 W n0 K0 R0 M0 outs) k) (h : ck_j O lx XF E mi d n0 W outs bc bs pc AL AS n F k (.areturn) = true) : gm_Wp X LX d bc bs mi pc L st n K R M (ck_Q O σ0 W n0 K0 R0 M0 outs) := by
  unfold ck_j at h
  dsimp only at h
  split at h
  · rename_i r s
    obtain ⟨f1, f2, f3, f4, f5⟩ := hS
    obtain ⟨st, rfl, hst⟩ := ck_qr f3
    cases hst
    split at h
    · rename_i e
      exact gm_r_ref hat (.inl ⟨_, e⟩) (ck_end_s (how := .inr (some (.inr (.inr (.inl r))))) hs f1 f4 f5 rfl h)
    · rename_i e
      exact gm_r_ref hat (.inr ⟨_, e⟩) (ck_end_s (how := .inr (some (.inr (.inr (.inl r))))) hs f1 f4 f5 rfl h)
    · cases h
  · cases h
end CM
