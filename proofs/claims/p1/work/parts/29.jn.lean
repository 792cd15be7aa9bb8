/-! PUTTING TOGETHER: from facts to the table of what never changes; boxes of the script; stops; the reference's flowAt, by hand where it reads one cell twice. -/
def ck_O0 : gm_Or := (fun _ => none, fun _ _ => none, fun _ _ => none)
theorem ck_F0 {n : Nat} {K : gm_K} {R : gm_R} {M : gm_M} : gm_Fx ck_O0 n K R M := ⟨fun _ _ h => (nomatch h), fun _ _ _ h => (nomatch h), fun _ _ _ h => (nomatch h)⟩
def ck_leT1 (O : gm_Or) (F : ck_F) (k : Nat) (e : (Nat × Nat) × List (Int × Nat) × List (Int × Int)) : Bool := (match ck_kd O F k with
  | some q => decide (q = e.1)
  | none => false) && ((e.2.1.all fun r => match ck_fR O F k r.1 with
  | some z => decide (z = r.2)
  | none => false) && e.2.2.isEmpty)
def ck_leT (O : gm_Or) (F : ck_F) (T : ck_TT) : Bool := (List.range (16 * T.length)).all fun k => match ck_tab T k with
  | some e => ck_leT1 O F k e
  | none => true
section JN
variable {O : gm_Or} {X : Int → Int} {LX : Nat} {E : List (Nat × List ck_Sum)} {mi d n0 : Nat} {W : List (Nat × Int × Int) × List (Nat × Int)} {outs : List ck_Oc} {bc bs pc : Nat} {L : gm_L} {n : Nat} {K : gm_K} {R : gm_R} {M : gm_M} {AL : ck_AL} {F : ck_F} {σ : Nat → Int} {K0 : gm_K} {R0 : gm_R} {M0 : gm_M} {Q : gm_Q}
theorem ck_tab_lt {T : ck_TT} {k : Nat} {e : (Nat × Nat) × List (Int × Nat) × List (Int × Int)} (h : ck_tab T k = some e) : k < 16 * T.length := by
  unfold ck_tab at h
  cases hr : T[k / 16]? with
  | none => rw [hr] at h; cases h
  | some r =>
    have h1 := (List.getElem?_eq_some_iff.mp hr).1
    omega
theorem ck_leT_s {T : ck_TT} (hF : gm_Fx O n K R M) (h : ck_gf σ F n K R M) (hl : ck_leT O F T = true) : gm_Fx (ck_OT T) n K R M := by
  have key : ∀ k e, ck_tab T k = some e → ck_leT1 O F k e = true := by
    intro k e he
    have h1 := List.all_eq_true.mp hl k (List.mem_range.mpr (ck_tab_lt he))
    rw [he] at h1
    exact h1
  refine ⟨fun k q hq => ?_, fun k j r hr => ?_, fun k j v hv => ?_⟩
  · have hq : (match ck_tab T k with
      | some e => some e.1
      | none => none) = some q := hq
    cases he : ck_tab T k with
    | none => rw [he] at hq; cases hq
    | some e =>
      rw [he] at hq
      cases hq
      have h1 := key k e he
      simp only [ck_leT1, Bool.and_eq_true] at h1
      cases hd : ck_kd O F k with
      | none => rw [hd] at h1; cases h1.1
      | some q =>
        rw [hd] at h1
        have h2 := ck_kd_s hF h hd
        rw [← of_decide_eq_true h1.1]
        exact ⟨h2.1.1, h2.1.2, h2.2⟩
  · have hr : (match ck_tab T k with
      | some e => e.2.1.lookup j
      | none => none) = some r := hr
    cases he : ck_tab T k with
    | none => rw [he] at hr; cases hr
    | some e =>
      rw [he] at hr
      have h1 := key k e he
      simp only [ck_leT1, Bool.and_eq_true] at h1
      have hm : (j, r) ∈ e.2.1 := by
        have hr : e.2.1.lookup j = some r := hr
        generalize e.2.1 = l at hr
        induction l with
        | nil => cases hr
        | cons q l ih =>
          obtain ⟨a, b⟩ := q
          rw [List.lookup_cons] at hr
          by_cases e9 : j = a
          · subst e9
            rw [beq_self_eq_true] at hr
            cases hr
            exact List.mem_cons_self
          · rw [beq_false_of_ne e9] at hr
            exact List.mem_cons_of_mem _ (ih hr)
      have h3 := List.all_eq_true.mp h1.2.1 (j, r) hm
      cases hd : ck_fR O F k j with
      | none => rw [hd] at h3; cases h3
      | some z =>
        rw [hd] at h3
        have h2 := ck_fR_s hF h hd
        have h4 : z = r := of_decide_eq_true h3
        rw [← h4]
        exact h2
  · have hv : (match ck_tab T k with
      | some e => e.2.2.lookup j
      | none => none) = some v := hv
    cases he : ck_tab T k with
    | none => rw [he] at hv; cases hv
    | some e =>
      rw [he] at hv
      have h1 := key k e he
      simp only [ck_leT1, Bool.and_eq_true] at h1
      have h4 : e.2.2 = [] := List.isEmpty_iff.mp h1.2.2
      have hv : e.2.2.lookup j = some v := hv
      rw [h4] at hv
      cases hv
/-- an end seen from further on is one seen from the beginning -/
theorem ck_QJ {O' : gm_Or} {W' : List (Nat × Int × Int) × List (Nat × Int)} {n1 : Nat} {K1 : gm_K} {R1 : gm_R} {M1 : gm_M} {o : gm_O} (hO : gm_Fx O n K R M) (h1 : ck_fr W n0 K0 R0 M0 n1 K1 R1 M1) (hW : W'.1.all (fun w => decide (n0 < w.1)) = true) (hR : W'.2.all (fun w => decide (n0 < w.1)) = true) (h : ck_Q O' σ W' n1 K1 R1 M1 outs o n K R M) : ck_Q O σ W n0 K0 R0 M0 outs o n K R M := by
  obtain ⟨-, ⟨g1, g2, g3, g4⟩, ho⟩ := h
  obtain ⟨f1, f2, f3, f4⟩ := h1
  refine ⟨hO, ⟨Nat.le_trans f1 g1, fun k hk => (g2 k (Nat.le_trans hk f1)).trans (f2 k hk), fun k j hk hw => (g3 k j (Nat.le_trans hk f1) fun w hm hc => ?_).trans (f3 k j hk hw), fun k j hk hw => (g4 k j (Nat.le_trans hk f1) fun hm => ?_).trans (f4 k j hk hw)⟩, ho⟩
  · have h2 := of_decide_eq_true (List.all_eq_true.mp hW w hm)
    have h3 := hc.1
    omega
  · have h2 := of_decide_eq_true (List.all_eq_true.mp hR (k, j) hm)
    have h3 : n0 < k := h2
    omega
/-! boxes of the script -/
def ck_prod : List (Int × List (Int × Int)) → List (List (Int × Int × ck_I))
  | [] => [[]]
  | q :: r => q.2.flatMap fun iv => (ck_prod r).map fun xf => (q.1, q.1, (iv.1, iv.2, none)) :: xf
def ck_cov : Int → List (Int × Int) → Bool
  | lo, [] => decide (2147483648 ≤ lo)
  | lo, iv :: r => decide (iv.1 = lo) && ck_cov (iv.2 + 1) r
theorem ck_cov_s {x : Int} : ∀ {l : List (Int × Int)} {lo : Int}, ck_cov lo l = true → lo ≤ x → x < 2147483648 → ∃ iv ∈ l, iv.1 ≤ x ∧ x ≤ iv.2 := by
  intro l
  induction l with
  | nil => intro lo h h1 h2; have := of_decide_eq_true h; omega
  | cons iv r ih =>
    intro lo h h1 h2
    simp only [ck_cov, Bool.and_eq_true, decide_eq_true_eq] at h
    by_cases hx : x ≤ iv.2
    · exact ⟨iv, List.mem_cons_self, by omega, hx⟩
    · obtain ⟨q, hq, h3⟩ := ih h.2 (by omega) h2
      exact ⟨q, List.mem_cons_of_mem _ hq, h3⟩
theorem ck_prod_s (hX : ∀ j, gm_ir (X j)) : ∀ {ivs : List (Int × List (Int × Int))}, ivs.all (fun q => ck_cov (-2147483648) q.2) = true → ∃ xf ∈ ck_prod ivs, ∀ σ, ck_OkX σ X xf := by
  intro ivs
  induction ivs with
  | nil => intro _; exact ⟨[], List.mem_cons_self, fun _ _ h => nomatch h⟩
  | cons q r ih =>
    intro h
    simp only [List.all_cons, Bool.and_eq_true] at h
    obtain ⟨xf, hm, hx⟩ := ih h.2
    obtain ⟨iv, hv, h1, h2⟩ := ck_cov_s h.1 (hX q.1).1 (hX q.1).2
    refine ⟨(q.1, q.1, (iv.1, iv.2, none)) :: xf, List.mem_flatMap.mpr ⟨iv, hv, List.mem_map.mpr ⟨xf, hm, rfl⟩⟩, fun σ z hz j h3 h4 => ?_⟩
    rcases List.mem_cons.mp hz with rfl | hz
    · have h3 : q.1 ≤ j := h3
      have h4 : j ≤ q.1 := h4
      obtain rfl : j = q.1 := by omega
      exact ⟨hX _, h1, h2, fun _ h => nomatch h⟩
    · exact hx σ z hz j h3 h4
theorem ck_boxes {ivs : List (Int × List (Int × Int))} {f lx : Nat} (hE : ck_OkE O X LX E) (hLX : lx = LX) (hX : ∀ j, gm_ir (X j)) (hc : ivs.all (fun q => ck_cov (-2147483648) q.2) = true) (hb : (ck_prod ivs).all (fun xf => ck_go O (some lx) xf E mi d n0 W outs [] f false [] bc bs pc AL [] n0 F) = true) (hS : ck_St O σ W n0 K0 R0 M0 AL [] F L [] n0 K R M) : gm_Wp X LX d bc bs mi pc L [] n0 K R M (ck_Q O σ W n0 K0 R0 M0 outs) := by
  obtain ⟨xf, hm, hx⟩ := ck_prod_s hX hc
  exact ck_go_s (σ0 := σ) (cuts := []) hE hx (fun l e => by cases e; exact hLX) f false [] bc bs pc AL [] n0 F σ L [] K R M (fun _ _ => rfl) (fun _ h => nomatch h) hS (List.all_eq_true.mp hb xf hm)
/-- a method walked up to stops -/
theorem ck_ok_st {cuts : List (Nat × ck_C)} {f : Nat} {S : ck_Sum} {ch : List ck_H} (hE : ck_OkE O X LX E) (h : (decide (S.2.2.1.length ≤ gm_ml mi) && ck_go O none [] E mi S.1.1 S.2.1 S.2.2.2.2.1 S.2.2.2.2.2 cuts f false ch S.1.2.1 S.1.2.2 0 (S.2.2.1.map some ++ List.replicate (gm_ml mi - S.2.2.1.length) none) [] S.2.1 S.2.2.2.1) = true)
    (hch : ∀ h ∈ ch, cuts.lookup h.1 = some h.2.1 ∧ ∀ (σ : Nat → Int) (K0 : gm_K) (R0 : gm_R) (M0 : gm_M), ck_Hy O X LX mi S.1.1 S.2.2.2.2.1 S.2.1 K0 R0 M0 (ck_Q O σ S.2.2.2.2.1 S.2.1 K0 R0 M0 S.2.2.2.2.2) σ h) : ck_Ok O X LX mi S := by
  intro d σ vs n K R M hd hn hvs hF hf
  simp only [Bool.and_eq_true, decide_eq_true_eq] at h
  obtain ⟨h2, h3⟩ := h
  subst hn
  obtain ⟨g1, g2⟩ := ck_ent hvs
  refine gm_Wp_wk hd (Nat.le_refl _) (Nat.le_refl _) (ck_go_s (σ0 := σ) hE ck_X0 ck_l0 f false ch _ _ 0 _ [] _ _ σ _ [] K R M (fun _ _ => rfl) (fun z hz => ⟨(hch z hz).1, (hch z hz).2 σ K R M⟩) ⟨hF, ⟨?_, fun j b hb => ?_⟩, rfl, hf, ck_fr_0⟩ h3)
  · unfold gm_ent
    simp [g1]
  · unfold gm_ent
    rw [List.getElem?_append] at hb ⊢
    simp only [List.length_map] at hb ⊢
    split at hb
    · rename_i e
      rw [if_pos (by rw [← g1]; exact e)]
      rw [List.getElem?_map] at hb ⊢
      cases hq : S.2.2.1[j]? with
      | none => rw [hq] at hb; cases hb
      | some b' =>
        rw [hq] at hb
        cases hb
        obtain ⟨u, h4, h5⟩ := g2 j b hq
        exact ⟨u, by rw [h4]; rfl, h5⟩
    · exfalso
      have := List.mem_of_getElem? hb
      rw [List.mem_replicate] at this
      cases this.2
/-- flowAt of the reference, from its first look at the row to the second -/
theorem ck_flow {k fl : Nat} {t : Int} (hF : gm_Fx O n K R M) (hkk : O.1 k = some (15, 0)) (hfl : O.2.1 k 25 = some fl) (hfk : O.1 fl = some (1, 29700)) (h0 : L[0]? = some (some (gm_vr k))) (h4 : L[4]? = some (some (gm_vi t))) (ht : 0 ≤ t ∧ t < 29700) (hM : 0 ≤ M fl t ∧ M fl t ≤ 127) (hr : 0 < M fl t → Q (.inl (some (gm_vi (M fl t - 1)))) n K R M) (h34 : gm_Wp X LX d bc bs 293 34 L [] n K R M Q) : gm_Wp X LX d bc bs 293 14 L [] n K R M Q := by
  have hK1 := hF.1 k _ hkk
  have hK2 := hF.1 fl _ hfk
  have hR := (hF.2.1 k _ fl hfl).2
  have hw : gm_w t = t := gm_w_id (by omega) (by omega)
  have hkd : (K k).1 = 11 + 4 := by rw [hK1.2.2]
  have hfd : (K fl).1 = 1 := by rw [hK2.2.2]
  have hfi : 0 ≤ gm_w t ∧ gm_w t < (K fl).2 := by rw [hw, hK2.2.2]; exact ht
  have hif : (if gm_isr 11 25 = true then gm_vr (R k ((25 : Nat) : Int)) else gm_vi (M k ((25 : Nat) : Int))) = gm_vr fl := by
    rw [if_pos (by decide +kernel)]
    exact congrArg gm_vr hR
  refine gm_sp (gm_p_load (i := .aload_n 0) (sr := 2) (j := 0) (by decide +kernel) (by decide +kernel) h0 rfl) (Nat.zero_le _) (Nat.zero_le _) ?_
  refine gm_sp (pc' := 18) (gm_p_get (pc := 15) (ix := 42) (ci := 11) (j := 25) (by decide +kernel) ⟨hK1.1, hK1.2.1⟩ hkd (by decide +kernel)) (Nat.zero_le _) (Nat.zero_le _) ?_
  rw [hif]
  refine gm_sp (gm_p_load (i := .iload 4) (sr := 0) (j := 4) (by decide +kernel) (by decide +kernel) h4 rfl) (Nat.zero_le _) (Nat.zero_le _) ?_
  refine gm_sp (pc' := 21) (gm_p_bald (pc := 20) (by decide +kernel) ⟨hK2.1, hK2.2.1⟩ hfd hfi) (Nat.zero_le _) (Nat.zero_le _) ?_
  rw [hw]
  refine gm_b_if (cc := .le) (off := 13) (by decide +kernel) (by decide) (fun _ => h34) (fun hp => ?_)
  have hp : 0 < M fl t := by
    rw [gm_cm_w ⟨by omega, by omega⟩ ⟨by omega, by omega⟩] at hp
    have hp : ¬ M fl t ≤ 0 := hp
    omega
  refine gm_sp (pc' := 25) (gm_p_load (pc := 24) (i := .aload_n 0) (sr := 2) (j := 0) (by decide +kernel) (by decide +kernel) h0 rfl) (Nat.zero_le _) (Nat.zero_le _) ?_
  refine gm_sp (pc' := 28) (gm_p_get (pc := 25) (ix := 42) (ci := 11) (j := 25) (by decide +kernel) ⟨hK1.1, hK1.2.1⟩ hkd (by decide +kernel)) (Nat.zero_le _) (Nat.zero_le _) ?_
  rw [hif]
  refine gm_sp (pc' := 30) (gm_p_load (pc := 28) (i := .iload 4) (sr := 0) (j := 4) (by decide +kernel) (by decide +kernel) h4 rfl) (Nat.zero_le _) (Nat.zero_le _) ?_
  refine gm_sp (pc' := 31) (gm_p_bald (pc := 30) (by decide +kernel) ⟨hK2.1, hK2.2.1⟩ hfd hfi) (Nat.zero_le _) (Nat.zero_le _) ?_
  rw [hw]
  refine gm_sp (pc' := 32) (gm_p_const (pc := 31) (i := .iconst 1) (v := gm_vi 1) (by decide +kernel) rfl) (Nat.zero_le _) (Nat.zero_le _) ?_
  refine gm_sp (pc' := 33) (gm_p_bin (pc := 32) (i := .isub) (f := fun x y => x - y) (by decide +kernel) rfl) (Nat.zero_le _) (Nat.zero_le _) ?_
  exact gm_r_int (by decide +kernel) (Or.inl (by decide +kernel)) (hr hp)
end JN
