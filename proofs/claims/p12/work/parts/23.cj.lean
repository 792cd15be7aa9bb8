/-! 23.cj -/
section
/-! THE CHECKER: every instruction. -/
noncomputable def ck_ho (σ : Nat → Int) : (Nat ⊕ Option ck_A) → gm_O → Prop
  | .inl x, .inr y => x = y
  | .inr none, .inl none => True
  | .inr (some a), .inl (some v) => ck_ga σ a v
  | _, _ => False
/-- how a method ends that the checker has seen -/
noncomputable abbrev ck_Q (O : gm_Or) (σ : Nat → Int) (W : List (Nat × Int × Int) × List (Nat × Int)) (n0 : Nat) (K0 : gm_K) (R0 : gm_R) (M0 : gm_M) (outs : List ck_Oc) : gm_Q := fun o n K R M => gm_Fx O n K R M ∧ ck_fr W n0 K0 R0 M0 n K R M ∧ ∃ oc ∈ outs, ck_ho σ oc.1 o ∧ n = oc.2.1 ∧ ck_gf σ oc.2.2 n K R M
noncomputable def ck_gas (σ : Nat → Int) : List ck_A → List gm_V → Prop
  | [], vs => vs = []
  | a :: as, vs => ∃ v ws, vs = v :: ws ∧ ck_ga σ a v ∧ ck_gas σ as ws
/-- what is said of a method -/
noncomputable def ck_Ok (O : gm_Or) (X : Int → Int) (LX mj : Nat) (S : ck_Sum) : Prop := ∀ (d : Nat) (σ : Nat → Int) (vs : List gm_V) (n : Nat) (K : gm_K) (R : gm_R) (M : gm_M), S.1.1 ≤ d → n = S.2.1 → ck_gas σ S.2.2.1 vs → (∀ q ∈ O.2.2.nm, σ q.1 = M q.2.1 q.2.2) → gm_Fx O n K R M → ck_gf σ S.2.2.2.1 n K R M → gm_Wp X LX d S.1.2.1 S.1.2.2 mj 0 (gm_ent mj vs) [] n K R M (ck_Q O σ S.2.2.2.2.1 n K R M S.2.2.2.2.2)
noncomputable def ck_OkE (O : gm_Or) (X : Int → Int) (LX : Nat) (E : List (Nat × List ck_Sum)) : Prop := ∀ mj l, E.lookup mj = some l → ∀ S ∈ l, ck_Ok O X LX mj S
noncomputable def ck_OkX (σ : Nat → Int) (X : Int → Int) (XF : List (Int × Int × ck_I)) : Prop := ∀ q ∈ XF, ∀ j, q.1 ≤ j → j ≤ q.2.1 → gm_ir (X j) ∧ ck_gi σ q.2.2 (X j)
/-- a state that the checker knows -/
noncomputable def ck_St (O : gm_Or) (σ : Nat → Int) (W : List (Nat × Int × Int) × List (Nat × Int)) (n0 : Nat) (K0 : gm_K) (R0 : gm_R) (M0 : gm_M) (AL : ck_AL) (AS : ck_AS) (F : ck_F) (L : gm_L) (st : List gm_V) (n : Nat) (K : gm_K) (R : gm_R) (M : gm_M) : Prop := gm_Fx O n K R M ∧ ck_gl σ AL L ∧ ck_gs σ L M AS st ∧ ck_gf σ F n K R M ∧ ck_fr W n0 K0 R0 M0 n K R M
section CJ
variable {O : gm_Or} {X : Int → Int} {LX : Nat} {XF : List (Int × Int × ck_I)} {E : List (Nat × List ck_Sum)} {mi d n0 : Nat} {W : List (Nat × Int × Int) × List (Nat × Int)} {outs : List ck_Oc} {bc bs pc : Nat} {L : gm_L} {st : List gm_V} {n : Nat} {K : gm_K} {R : gm_R} {M : gm_M} {AL : ck_AL} {AS : ck_AS} {F : ck_F} {σ σ0 : Nat → Int} {K0 : gm_K} {R0 : gm_R} {M0 : gm_M} {Q : gm_Q}
theorem ck_w6 (x : Int) : Int64.ofInt (gm_w6 x) = Int64.ofInt x := by
  apply Int64.toInt_inj.mp
  rw [gm_w6_toInt, gm_w6_toInt]
  unfold gm_w6
  omega
/-- an int may be taken round -/
theorem ck_nv {x : Int} (h : gm_Wp X LX d bc bs mi pc L (gm_vi (gm_w x) :: st) n K R M Q) : gm_Wp X LX d bc bs mi pc L (gm_vi x :: st) n K R M Q := by
  intro p l e Rm s m args below meth c D ti adK adV A α0 n0 mc ms h1 h2 h3 h4 h5 h6 h7 α H locs cells slots ls sv h8 h9 h10 h11 h12 h13
  refine h p l e Rm s m args below meth c D ti adK adV A α0 n0 mc ms h1 h2 h3 h4 h5 h6 h7 α H locs cells slots ls sv h8 h9 h10 h11 h12 ?_
  obtain ⟨w, ws, rfl, h14, h15⟩ := h13
  refine ⟨w, ws, rfl, ?_, h15⟩
  show w = .int (Int32.ofInt (gm_w x))
  rw [gm_w_of]
  exact h14
theorem ck_nvL {j : Nat} {x : Int} (h : gm_Wp X LX d bc bs mi pc (gm_lst L j (gm_vi (gm_w x))) st n K R M Q) : gm_Wp X LX d bc bs mi pc (gm_lst L j (gm_vi x)) st n K R M Q := by
  intro p l e Rm s m args below meth c D ti adK adV A α0 n0 mc ms h1 h2 h3 h4 h5 h6 h7 α H locs cells slots ls sv h8 h9 h10 h11 h12 h13
  refine h p l e Rm s m args below meth c D ti adK adV A α0 n0 mc ms h1 h2 h3 h4 h5 h6 h7 α H locs cells slots ls sv h8 h9 h10 h11 ?_ h13
  obtain ⟨g1, l1, g2, g3⟩ := h12
  have e0 : ∀ y : Int, gm_lst L j (gm_vi y) = (gm_lc L j).set j (some (gm_vi y)) := fun _ => rfl
  rw [e0] at g1
  refine ⟨by rw [e0]; simpa using g1, l1, g2, fun i v hi => ?_⟩
  rw [e0, List.getElem?_set] at hi
  by_cases e : j = i
  · rw [if_pos e] at hi
    split at hi
    · rename_i e2
      cases hi
      obtain ⟨w, k1, k2⟩ := g3 i (gm_vi x) (by rw [e0, List.getElem?_set, if_pos e, if_pos e2])
      refine ⟨w, ?_, k2⟩
      show w = .int (Int32.ofInt (gm_w x))
      rw [gm_w_of]
      exact k1
    · cases hi
  · rw [if_neg e] at hi
    exact g3 i v (by rw [e0, List.getElem?_set, if_neg e]; exact hi)
theorem ck_nv6 {x : Int} (h : gm_Wp X LX d bc bs mi pc L (gm_vl (gm_w6 x) :: st) n K R M Q) : gm_Wp X LX d bc bs mi pc L (gm_vl x :: st) n K R M Q := by
  intro p l e Rm s m args below meth c D ti adK adV A α0 n0 mc ms h1 h2 h3 h4 h5 h6 h7 α H locs cells slots ls sv h8 h9 h10 h11 h12 h13
  refine h p l e Rm s m args below meth c D ti adK adV A α0 n0 mc ms h1 h2 h3 h4 h5 h6 h7 α H locs cells slots ls sv h8 h9 h10 h11 h12 ?_
  obtain ⟨w, ws, rfl, h14, h15⟩ := h13
  refine ⟨w, ws, rfl, ?_, h15⟩
  show w = .long (Int64.ofInt (gm_w6 x))
  rw [ck_w6]
  exact h14
theorem ck_r6_w (x : Int) : ck_r6 (gm_w6 x) := by unfold ck_r6 gm_w6; omega
theorem ck_tp6_s {x : Int} (h : ck_r6 x) : ck_gi σ ck_tp6 x := ⟨h.1, Int.le_of_lt_add_one h.2, ck_gt_none⟩
theorem ck_r6_i {x : Int} (h : gm_ir x) : ck_r6 x := by unfold gm_ir at h; unfold ck_r6; omega
theorem ck_pi {x : Int} {a : ck_I} {s : ck_S} (hx : gm_ir x) (ha : ck_gi σ a x) (hs : ck_gr L M s (gm_vi x)) (h : ck_gs σ L M AS st) : ck_gs σ L M ((.inl a, s) :: AS) (gm_vi x :: st) := ⟨_, _, rfl, ⟨⟨x, rfl, hx, ha⟩, hs⟩, h⟩
theorem ck_pl {x : Int} {a : ck_I} (hx : ck_r6 x) (ha : ck_gi σ a x) (h : ck_gs σ L M AS st) : ck_gs σ L M ((.inr (.inl a), none) :: AS) (gm_vl x :: st) := ⟨_, _, rfl, ⟨⟨x, rfl, hx, ha⟩, trivial⟩, h⟩
theorem ck_pr {k : Nat} (h : ck_gs σ L M AS st) : ck_gs σ L M ((.inr (.inr (.inl k)), none) :: AS) (gm_vr k :: st) := ⟨_, _, rfl, ⟨rfl, trivial⟩, h⟩
theorem ck_po {k : Nat} (h : ck_gs σ L M AS st) : ck_gs σ L M ((.inr (.inr (.inr k)), none) :: AS) (gm_vo k :: st) := ⟨_, _, rfl, ⟨rfl, trivial⟩, h⟩
theorem ck_qi {a : ck_I} {s : ck_S} (h : ck_gs σ L M ((.inl a, s) :: AS) st) : ∃ x st', st = gm_vi x :: st' ∧ gm_ir x ∧ ck_gi σ a x ∧ ck_gr L M s (gm_vi x) ∧ ck_gs σ L M AS st' := by
  obtain ⟨v, vs, rfl, ⟨⟨x, rfl, h1, h2⟩, h3⟩, h4⟩ := h
  exact ⟨x, vs, rfl, h1, h2, h3, h4⟩
theorem ck_ql {a : ck_I} {s : ck_S} (h : ck_gs σ L M ((.inr (.inl a), s) :: AS) st) : ∃ x st', st = gm_vl x :: st' ∧ ck_r6 x ∧ ck_gi σ a x ∧ ck_gs σ L M AS st' := by
  obtain ⟨v, vs, rfl, ⟨⟨x, rfl, h1, h2⟩, h3⟩, h4⟩ := h
  exact ⟨x, vs, rfl, h1, h2, h4⟩
theorem ck_qr {k : Nat} {s : ck_S} (h : ck_gs σ L M ((.inr (.inr (.inl k)), s) :: AS) st) : ∃ st', st = gm_vr k :: st' ∧ ck_gs σ L M AS st' := by
  obtain ⟨v, vs, rfl, ⟨rfl, h3⟩, h4⟩ := h
  exact ⟨vs, rfl, h4⟩
theorem ck_qo {k : Nat} {s : ck_S} (h : ck_gs σ L M ((.inr (.inr (.inr k)), s) :: AS) st) : ∃ st', st = gm_vo k :: st' ∧ ck_gs σ L M AS st' := by
  obtain ⟨v, vs, rfl, ⟨rfl, h3⟩, h4⟩ := h
  exact ⟨vs, rfl, h4⟩
theorem ck_q1 {q : ck_A × ck_S} (h : ck_gs σ L M (q :: AS) st) : ∃ v st', st = v :: st' ∧ gm_sort v = ck_so q.1 ∧ (ck_ga σ q.1 v ∧ ck_gr L M q.2 v) ∧ ck_gs σ L M AS st' := by
  obtain ⟨v, vs, rfl, h3, h4⟩ := h
  exact ⟨v, vs, rfl, ck_so_s h3.1, h3, h4⟩
theorem ck_cvk_i {v : Int} (h : ck_cvk (gm_vi v) = true) : gm_ir v := by
  simp only [ck_cvk, Bool.and_eq_true, decide_eq_true_eq] at h
  exact h
theorem ck_cvk_l {v : Int} (h : ck_cvk (gm_vl v) = true) : ck_r6 v := by
  simp only [ck_cvk, Bool.and_eq_true, decide_eq_true_eq] at h
  exact h
theorem ck_cv_s {v : gm_V} (h : ck_cvk v = true) : ck_ga σ (ck_cv v) v := by
  rcases v with x | x | k | k
  · exact ⟨x, rfl, ck_cvk_i h, ck_one_s x⟩
  · exact ⟨x, rfl, ck_cvk_l h, ck_one_s x⟩
  · rfl
  · rfl
noncomputable abbrev ck_On (O : gm_Or) (X : Int → Int) (LX : Nat) (σ : Nat → Int) (mi d : Nat) (W : List (Nat × Int × Int) × List (Nat × Int)) (n0 : Nat) (K0 : gm_K) (R0 : gm_R) (M0 : gm_M) (Q : gm_Q) (k : Nat → Nat → Nat → ck_AL → ck_AS → Nat → ck_F → Bool) : Prop := ∀ bc bs pc AL AS n F L st K R M, k bc bs pc AL AS n F = true → ck_St O σ W n0 K0 R0 M0 AL AS F L st n K R M → gm_Wp X LX d bc bs mi pc L st n K R M Q
variable {k : Nat → Nat → Nat → ck_AL → ck_AS → Nat → ck_F → Bool}
/-- a branch is taken or not -/
theorem ck_br_s {c : ClassFile.Cond} {a b : ck_I} {s t : ck_S} {x y : Int} {P : Prop} {g : ck_AL → ck_F → Bool} (hS : ck_St O σ W n0 K0 R0 M0 AL AS F L st n K R M) (hx : gm_ir x) (ha : ck_gi σ a x) (hs : ck_gr L M s (gm_vi x)) (hy : gm_ir y) (hb : ck_gi σ b y) (ht : ck_gr L M t (gm_vi y)) (hc : gm_cm c x y) (h : ck_br c a s b t AL F g = true) (hg : ∀ AL F, g AL F = true → ck_St O σ W n0 K0 R0 M0 AL AS F L st n K R M → P) : P := by
  have h1 := ck_rf_s ha hb hc
  have h2 := ck_rf_s hb ha (ck_sw_s hc)
  unfold ck_br at h
  rw [if_neg (by rw [ck_no_s h1, ck_no_s h2]; decide)] at h
  obtain ⟨f1, f2, f3, f4, f5⟩ := hS
  exact hg _ _ h ⟨f1, ck_qL_s ⟨h2.1, h2.2.1⟩ hb (ck_qL_s ⟨h1.1, h1.2.1⟩ ha (ck_rL_s (ck_rL_s f2 hs hx h1) ht hy h2)), f3, ck_qF_s ⟨h2.1, h2.2.1⟩ hb (ck_qF_s ⟨h1.1, h1.2.1⟩ ha (ck_rF_s (ck_rF_s f4 hs hx h1) ht hy h2)), f5⟩
theorem ck_tI_s {a : ck_I} {x : Int} (hs : ∀ s, s < 100 → σ s = σ0 s) (h : ck_tI a = true) (ha : ck_gi σ a x) : ck_gi σ0 a x := by
  refine ⟨ha.1, ha.2.1, fun q hq => ?_⟩
  have h1 := ha.2.2 q hq
  have h := List.all_eq_true.mp (ck_tI_def.symm.trans h) q hq
  simp only [Bool.or_eq_true, Bool.and_eq_true, decide_eq_true_eq] at h
  refine ⟨fun e => ?_, fun e => ?_⟩
  · rw [← hs q.1 (by omega)]
    exact h1.1 e
  · rw [← hs (q.1 - 1000000) (by omega)]
    exact h1.2 e
theorem ck_tA_s {a : ck_A} {v : gm_V} (hs : ∀ s, s < 100 → σ s = σ0 s) (h : ck_tA a = true) (ha : ck_ga σ a v) : ck_ga σ0 a v := by
  rcases a with a | a | k | k
  · obtain ⟨x, rfl, h1, h2⟩ := ha
    exact ⟨x, rfl, h1, ck_tI_s hs h h2⟩
  · obtain ⟨x, rfl, h1, h2⟩ := ha
    exact ⟨x, rfl, h1, ck_tI_s hs h h2⟩
  · exact ha
  · exact ha
theorem ck_tF_s (hs : ∀ s, s < 100 → σ s = σ0 s) (h : ck_tF F = true) (ha : ck_gf σ F n K R M) : ck_gf σ0 F n K R M := by
  refine ⟨ha.1, ha.2.1, fun q hq => ⟨(ha.2.2 q hq).1, fun j h1 h2 => ?_⟩⟩
  have h3 := (ha.2.2 q hq).2 j h1 h2
  exact ⟨h3.1, ck_tI_s hs (List.all_eq_true.mp (ck_tF_def.symm.trans h) q hq) h3.2⟩
theorem ck_end_s {how : Nat ⊕ Option ck_A} {o : gm_O} (hs : ∀ s, s < 100 → σ s = σ0 s) (hF : gm_Fx O n K R M) (hf : ck_gf σ F n K R M) (hfr : ck_fr W n0 K0 R0 M0 n K R M) (ho : ck_ho σ how o) (h : ck_end O outs how n F = true) : ck_Q O σ0 W n0 K0 R0 M0 outs o n K R M := by
  rw [ck_end_def] at h
  obtain ⟨oc, h1, h2⟩ := List.any_eq_true.mp h
  simp only [Bool.and_eq_true, beq_iff_eq] at h2
  obtain ⟨h3, h4, h5, h6⟩ := h2
  refine ⟨hF, hfr, oc, h1, ?_, h4, ck_tF_s hs h6 (ck_leF_s hF hf h5)⟩
  obtain ⟨o1, o2⟩ := oc
  dsimp only at h3 ⊢
  rcases how with x | _ | a <;> rcases o1 with y | _ | b
  · have : x = y := by simpa [ck_leO] using h3
    subst this
    rcases o with u | z
    · cases u <;> exact ho
    · exact ho
  · cases h3
  · cases h3
  · cases h3
  · rcases o with (_ | v) | z
    · exact trivial
    · exact ho.elim
    · exact ho.elim
  · cases h3
  · cases h3
  · cases h3
  · simp only [ck_leO, Bool.and_eq_true] at h3
    rcases o with u | z
    · cases u with
      | none => exact ho.elim
      | some v => exact ck_tA_s hs h3.2 (ck_leA_s h3.1 ho)
    · exact ho.elim
theorem ck_gas_s : ∀ {as bs : List ck_A} {vs : List gm_V}, ck_leAs as bs = true → ck_gas σ as vs → ck_gas σ bs vs := by
  intro as
  induction as with
  | nil =>
    intro bs vs h hv
    cases bs with
    | nil => exact hv
    | cons b bs => cases h
  | cons a as ih =>
    intro bs vs h hv
    cases bs with
    | nil => cases h
    | cons b bs =>
      obtain ⟨v, ws, rfl, h1, h2⟩ := hv
      have h3 : (ck_leA a b && ck_leAs as bs) = true := h
      rw [Bool.and_eq_true] at h3
      exact ⟨v, ws, rfl, ck_leA_s h3.1 h1, ih h3.2 h2⟩
/-- the arguments of a call, out of the stack -/
theorem ck_gas_app : ∀ {as bs : List ck_A} {vs ws : List gm_V}, ck_gas σ as vs → ck_gas σ bs ws → ck_gas σ (as ++ bs) (vs ++ ws) := by
  intro as
  induction as with
  | nil => intro bs vs ws h1 h2; cases h1; exact h2
  | cons a as ih =>
    intro bs vs ws h1 h2
    obtain ⟨v, us, rfl, h3, h4⟩ := h1
    exact ⟨v, us ++ ws, rfl, h3, ih h4 h2⟩
theorem ck_take : ∀ {m : Nat} {AS : ck_AS} {st : List gm_V}, ck_gs σ L M AS st → (st.take m).length = (AS.take m).length ∧ ck_gas σ ((AS.take m).reverse.map Prod.fst) (st.take m).reverse ∧ (ck_n1 (AS.take m) = true → ∀ v ∈ (st.take m).reverse, ¬ gm_sort v = 1) ∧ ck_gs σ L M (AS.drop m) (st.drop m) := by
  intro m
  induction m with
  | zero => intro AS st h; exact ⟨rfl, rfl, fun _ v hv => (nomatch hv), h⟩
  | succ m ih =>
    intro AS st h
    cases AS with
    | nil => cases h; exact ⟨rfl, rfl, fun _ v hv => (nomatch hv), rfl⟩
    | cons a AS =>
      obtain ⟨v, vs, rfl, h1, h2⟩ := h
      obtain ⟨i1, i2, i3, i4⟩ := ih h2
      refine ⟨by simp only [List.take_succ_cons, List.length_cons]; rw [i1], ?_, ?_, i4⟩
      · simp only [List.take_succ_cons, List.reverse_cons, List.map_append, List.map_cons, List.map_nil]
        exact ck_gas_app i2 ⟨v, [], rfl, h1.1, rfl⟩
      · intro h3 u hu
        simp only [List.take_succ_cons, List.reverse_cons, List.mem_append, List.mem_singleton] at hu
        simp only [ck_n1, List.take_succ_cons, List.all_cons, Bool.and_eq_true, Bool.not_eq_true', beq_eq_false_iff_ne, ne_eq] at h3
        rcases hu with hu | rfl
        · exact i3 h3.2 u hu
        · rw [ck_so_s h1.1]; exact h3.1
theorem ck_sum_s : ∀ {AS : ck_AS} {st : List gm_V}, ck_gs σ L M AS st → (st.map gm_cat).sum = (AS.map fun q => if ck_so q.1 = 1 then 2 else 1).sum := by
  intro AS
  induction AS with
  | nil => intro st h; cases h; rfl
  | cons a AS ih =>
    intro st h
    obtain ⟨v, vs, rfl, h1, h2⟩ := h
    simp only [List.map_cons, List.sum_cons]
    rw [ih h2]
    unfold gm_cat
    rw [ck_so_s h1.1]
theorem ck_sum8_s (h : ck_gs σ L M AS st) (h8 : ck_sum8 AS = true) : (st.map gm_cat).sum ≤ 8 := by
  rw [ck_sum_s h]
  exact of_decide_eq_true h8
/-- the names as the callee has them -/
noncomputable def ck_sn (O : gm_Or) (σ : Nat → Int) (M : gm_M) (s : Nat) : Int := match O.2.2.nm.find? fun p => p.1 == s with
  | some p => M p.2.1 p.2.2
  | none => σ s
/-- a name stands for one cell -/
noncomputable def ck_nmu (O : gm_Or) : Prop := ∀ q ∈ O.2.2.nm, O.2.2.nm.find? (fun p => p.1 == q.1) = some q
theorem ck_sn_s (hu : ck_nmu O) : ∀ q ∈ O.2.2.nm, ck_sn O σ M q.1 = M q.2.1 q.2.2 := by
  intro q hq
  unfold ck_sn
  rw [hu q hq]
theorem ck_nt_s {σ' : Nat → Int} {a : ck_I} {x : Int} (h : ck_nt a = true) (ha : ck_gi σ a x) : ck_gi σ' a x := ⟨ha.1, ha.2.1, fun q hq => by rw [List.isEmpty_iff.mp h] at hq; cases hq⟩
theorem ck_ntA_s {σ' : Nat → Int} {a : ck_A} {v : gm_V} (h : ck_ntA a = true) (ha : ck_ga σ a v) : ck_ga σ' a v := by
  rcases a with a | a | k | k
  · obtain ⟨x, h1, h2, h3⟩ := ha; exact ⟨x, h1, h2, ck_nt_s h h3⟩
  · obtain ⟨x, h1, h2, h3⟩ := ha; exact ⟨x, h1, h2, ck_nt_s h h3⟩
  · exact ha
  · exact ha
theorem ck_ntAs_s {σ' : Nat → Int} : ∀ {as : List ck_A} {vs : List gm_V}, as.all ck_ntA = true → ck_gas σ as vs → ck_gas σ' as vs := by
  intro as
  induction as with
  | nil => intro vs _ h; exact h
  | cons a as ih =>
    intro vs h hv
    obtain ⟨v, ws, rfl, h1, h2⟩ := hv
    rw [List.all_cons, Bool.and_eq_true] at h
    exact ⟨v, ws, rfl, ck_ntA_s h.1 h1, ih h.2 h2⟩
theorem ck_own_s {G : ck_F} (h : ck_gf σ (ck_cl G) n K R M) (ho : G.2.2.all (ck_own O) = true) : ck_gf (ck_sn O σ M) G n K R M := by
  refine ⟨h.1, h.2.1, fun q hq => ?_⟩
  have h1 := h.2.2 (q.1, q.2.1, q.2.2.1, (q.2.2.2.1, q.2.2.2.2.1, [])) (List.mem_map.mpr ⟨q, hq, rfl⟩)
  refine ⟨h1.1, fun j h2 h3 => ?_⟩
  have h4 := h1.2 j h2 h3
  refine ⟨h4.1, h4.2.1, h4.2.2.1, fun t ht => ?_⟩
  have h5 := List.all_eq_true.mp (List.all_eq_true.mp ho q hq) t ht
  simp only [Bool.and_eq_true, decide_eq_true_eq] at h5
  obtain ⟨h6, h7, h8, h9⟩ := h5
  refine ⟨fun _ => ?_, fun e => by omega⟩
  unfold ck_sn
  cases hp : O.2.2.nm.find? fun p => p.1 == t.1 with
  | none => rw [hp] at h9; cases h9
  | some p =>
    rw [hp] at h9
    simp only [Bool.and_eq_true, beq_iff_eq, decide_eq_true_eq] at h9
    dsimp only
    have : j = q.2.1 := by omega
    rw [h7, h9.1, h9.2, this]
    omega
theorem ck_r1_s {q t : Nat × Int} {x : Int} (hF : gm_Fx O n K R M) (hf : ck_gf σ F n K R M) (h : ck_g1 (ck_sn O σ M) q x) (ht : t ∈ ck_r1 O F q) : ck_g1 σ t x := by
  unfold ck_r1 at ht
  cases hp : O.2.2.nm.find? fun p => p.1 == (if q.1 < 1000000 then q.1 else q.1 - 1000000) with
  | none => rw [hp] at ht; cases ht
  | some p =>
    rw [hp] at ht
    dsimp only at ht
    cases hb : ck_rd O F p.2.1 p.2.2 p.2.2 with
    | none => rw [hb] at ht; cases ht
    | some b =>
      rw [hb] at ht
      obtain ⟨u, hu, rfl⟩ := List.mem_map.mp ht
      have h1 := ((ck_rd_s hF hf hb).2 p.2.2 (Int.le_refl _) (Int.le_refl _)).2.2.2 u hu
      have h2 : ck_sn O σ M (if q.1 < 1000000 then q.1 else q.1 - 1000000) = M p.2.1 p.2.2 := by
        unfold ck_sn
        rw [hp]
      by_cases e : q.1 < 1000000
      · rw [if_pos e] at h2
        have h3 := h.1 e
        rw [h2] at h3
        simp only [if_pos e]
        exact ⟨fun e2 => by have := h1.1 e2; dsimp only at e2 ⊢; omega, fun e2 => by have := h1.2 e2; dsimp only at e2 ⊢; omega⟩
      · rw [if_neg e] at h2
        have h3 := h.2 (by omega)
        rw [h2] at h3
        simp only [if_neg e]
        by_cases e2 : u.1 < 1000000
        · simp only [if_pos e2]
          have := h1.1 e2
          refine ⟨fun e3 => by dsimp only at e3; omega, fun _ => ?_⟩
          dsimp only
          rw [show u.1 + 1000000 - 1000000 = u.1 by omega]
          omega
        · simp only [if_neg e2]
          have := h1.2 (by omega)
          exact ⟨fun e3 => absurd e3 e2, fun _ => by dsimp only; omega⟩
theorem ck_rlo_s {x : Int} (hF : gm_Fx O n K R M) (hf : ck_gf σ F n K R M) : ∀ (l : List (Nat × Int)) (y : Int), (∀ q ∈ l, ck_g1 (ck_sn O σ M) q x) → y ≤ x → ck_rlo O F l y ≤ x := by
  intro l
  induction l with
  | nil => intro y _ h; exact h
  | cons q l ih =>
    intro y h hy
    refine ih _ (fun p hp => h p (List.mem_cons_of_mem _ hp)) ?_
    have h0 := h q List.mem_cons_self
    cases hp : O.2.2.nm.find? fun p => p.1 == (if q.1 < 1000000 then q.1 else q.1 - 1000000) with
    | none => exact hy
    | some p =>
      dsimp only
      cases hb : ck_rd O F p.2.1 p.2.2 p.2.2 with
      | none => exact hy
      | some b =>
        dsimp only
        have h1 := ((ck_rd_s hF hf hb).2 p.2.2 (Int.le_refl _) (Int.le_refl _)).2.1
        have h2 : ck_sn O σ M (if q.1 < 1000000 then q.1 else q.1 - 1000000) = M p.2.1 p.2.2 := by
          unfold ck_sn
          rw [hp]
        by_cases e : q.1 < 1000000
        · rw [if_pos e] at h2
          have h3 := h0.1 e
          split <;> omega
        · rw [if_neg e] at h2
          have h3 := h0.2 (by omega)
          split <;> omega
theorem ck_rhi_s {x : Int} (hF : gm_Fx O n K R M) (hf : ck_gf σ F n K R M) : ∀ (l : List (Nat × Int)) (y : Int), (∀ q ∈ l, ck_g1 (ck_sn O σ M) q x) → x ≤ y → x ≤ ck_rhi O F l y := by
  intro l
  induction l with
  | nil => intro y _ h; exact h
  | cons q l ih =>
    intro y h hy
    refine ih _ (fun p hp => h p (List.mem_cons_of_mem _ hp)) ?_
    have h0 := h q List.mem_cons_self
    by_cases e : q.1 < 1000000
    · rw [if_pos e]
      cases hp : O.2.2.nm.find? fun p => p.1 == q.1 with
      | none => exact hy
      | some p =>
        dsimp only
        cases hb : ck_rd O F p.2.1 p.2.2 p.2.2 with
        | none => exact hy
        | some b =>
          dsimp only
          have h1 := ((ck_rd_s hF hf hb).2 p.2.2 (Int.le_refl _) (Int.le_refl _)).2.2.1
          have h2 : ck_sn O σ M q.1 = M p.2.1 p.2.2 := by
            unfold ck_sn
            rw [hp]
          have h3 := h0.1 e
          split <;> omega
    · rw [if_neg e]; exact hy
theorem ck_rI_s {a : ck_I} {x : Int} (hF : gm_Fx O n K R M) (hf : ck_gf σ F n K R M) (h : ck_gi (ck_sn O σ M) a x) : ck_gi σ (ck_rI O F a) x := by
  unfold ck_rI
  split
  · rename_i e
    exact ⟨h.1, h.2.1, fun q hq => by rw [e] at hq; cases hq⟩
  · refine ⟨ck_rlo_s hF hf _ _ h.2.2 h.1, ck_rhi_s hF hf _ _ h.2.2 h.2.1, fun t ht => ?_⟩
    obtain ⟨q, hq, ht⟩ := List.mem_flatMap.mp ht
    exact ck_r1_s hF hf (h.2.2 q hq) ht
theorem ck_rA_s {a : ck_A} {v : gm_V} (hF : gm_Fx O n K R M) (hf : ck_gf σ F n K R M) (h : ck_ga (ck_sn O σ M) a v) : ck_ga σ (ck_rA O F a) v := by
  rcases a with a | a | k | k
  · obtain ⟨x, h1, h2, h3⟩ := h; exact ⟨x, h1, h2, ck_rI_s hF hf h3⟩
  · obtain ⟨x, h1, h2, h3⟩ := h; exact ⟨x, h1, h2, ck_rI_s hF hf h3⟩
  · exact h
  · exact h
theorem ck_rG_s {G : ck_F} {n' : Nat} {K' : gm_K} {R' : gm_R} {M' : gm_M} (hF : gm_Fx O n K R M) (hf : ck_gf σ F n K R M) (h : ck_gf (ck_sn O σ M) G n' K' R' M') : ck_gf σ (ck_rG O F G) n' K' R' M' := by
  refine ⟨h.1, h.2.1, fun q hq => ?_⟩
  obtain ⟨p, hp, rfl⟩ := List.mem_map.mp hq
  have h1 := h.2.2 p hp
  exact ⟨h1.1, fun j h2 h3 => ⟨(h1.2 j h2 h3).1, ck_rI_s hF hf (h1.2 j h2 h3).2⟩⟩
/-- behind a call that is known -/
theorem ck_call_s {mj pc' : Nat} {as : List ck_A} {vs : List gm_V} {AS' : ck_AS} {st' : List gm_V} (hs : ∀ s, s < 100 → σ s = σ0 s) (hE : ck_nmu O ∧ ck_OkE O X LX E) (hS : ck_St O σ W n0 K0 R0 M0 AL AS F L st n K R M) (has : ck_gas σ as vs) (hst : ck_gs σ L M AS' st') (hk : ck_On O X LX σ mi d W n0 K0 R0 M0 (ck_Q O σ0 W n0 K0 R0 M0 outs) k)
    (hcall : ∀ d' bc' bs', d' + 1 ≤ d → bc' ≤ bc → bs' ≤ bs → gm_Wp X LX d' bc' bs' mj 0 (gm_ent mj vs) [] n K R M (gm_contH X LX d (bc - bc') (bs - bs') mi pc pc' L st' (ck_Q O σ0 W n0 K0 R0 M0 outs)) → gm_Wp X LX d bc bs mi pc L st n K R M (ck_Q O σ0 W n0 K0 R0 M0 outs))
    (h : ck_call O E d n0 W bc bs n mj F as (fun bc bs how n F => match how with
          | .inl x => ck_thr O outs mi pc x n F (fun h => k bc bs h AL [(.inr (.inr (.inr 4000)), none)] n F)
          | .inr u => k bc bs pc' AL (ck_psh u AS') n F) = true) : gm_Wp X LX d bc bs mi pc L st n K R M (ck_Q O σ0 W n0 K0 R0 M0 outs) := by
  unfold ck_call at h
  simp only [ck_aW_eq, fl_lk_eq, fl_all_eq] at h
  cases he : E.lookup mj with
  | none => rw [he] at h; cases h
  | some l =>
    rw [he] at h
    dsimp only at h
    cases hp : ck_pick O n F as l with
    | none => rw [hp] at h; cases h
    | some S =>
      rw [hp] at h
      dsimp only at h
      simp only [Bool.and_eq_true, decide_eq_true_eq] at h
      obtain ⟨⟨h1, h2, h3⟩, ⟨h4, h5⟩, h6⟩ := h
      rw [ck_pick_def] at hp
      have hm := List.mem_of_find?_eq_some hp
      have h7 := List.find?_some hp
      simp only [Bool.and_eq_true, beq_iff_eq] at h7
      obtain ⟨h8, h9, hnt, h10, hown⟩ := h7
      obtain ⟨f1, f2, f3, f4, f5⟩ := hS
      refine hcall S.1.1 S.1.2.1 S.1.2.2 h1 h2 h3 ?_
      refine gm_Wp_mono (fun o n' K' R' M' hq => ?_) (hE.2 mj l he S hm S.1.1 (ck_sn O σ M) vs n K R M (Nat.le_refl _) h8.symm (ck_ntAs_s hnt (ck_gas_s h9 has)) (ck_sn_s hE.1) f1 (ck_own_s (ck_leF_s f1 f4 h10) hown))
      obtain ⟨g1, g2, oc, g3, g4, g5, g6⟩ := hq
      have h11 := List.all_eq_true.mp h6 oc g3
      have g7 := ck_fr_tr f5 g2 h4 h5
      have g8 := ck_mix_s f4 (ck_rG_s f1 f4 g6) g2
      obtain ⟨o1, o2, o3⟩ := oc
      dsimp only at g4 g5 g6 g8 h11
      subst g5
      rcases o1 with x | _ | a <;> rcases o with (_ | v) | z
      · exact g4.elim
      · exact g4.elim
      · cases g4
        change ck_thr _ _ _ _ _ _ _ _ = true at h11
        unfold ck_thr at h11
        show (match gm_hit (gm_ow mi) pc x false (gm_hh mi) with
          | some (some h) => gm_Wp X LX d _ _ mi h L [gm_vo 4000] _ K' R' M' (ck_Q O σ0 W n0 K0 R0 M0 outs)
          | some none => ck_Q O σ0 W n0 K0 R0 M0 outs (.inr x) _ K' R' M'
          | none => False)
        cases hhit : gm_hit (gm_ow mi) pc x false (gm_hh mi) with
        | none => rw [hhit] at h11; cases h11
        | some o9 =>
          rw [hhit] at h11
          cases o9 with
          | none => exact ck_end_s (how := .inl x) hs g1 g8 g7 rfl h11
          | some h9 => exact hk _ _ _ _ _ _ _ _ _ _ _ _ h11 ⟨g1, f2, ⟨gm_vo 4000, [], rfl, ⟨rfl, trivial⟩, rfl⟩, g8, g7⟩
      · exact hk _ _ _ _ _ _ _ _ _ _ _ _ h11 ⟨g1, f2, ck_sh_s hst, g8, g7⟩
      · exact g4.elim
      · exact g4.elim
      · exact g4.elim
      · exact hk _ _ _ _ _ _ _ _ _ _ _ _ h11 ⟨g1, f2, ⟨v, st', rfl, ⟨ck_rA_s f1 f4 g4, trivial⟩, ck_sh_s hst⟩, g8, g7⟩
      · exact g4.elim
end CJ
end
/-! 24.ci -/
section
/-! THE CHECKER: the instructions, one by one. -/
section CI
variable {O : gm_Or} {X : Int → Int} {LX : Nat} {lx : Option Nat} {XF : List (Int × Int × ck_I)} {E : List (Nat × List ck_Sum)} {mi d n0 : Nat} {W : List (Nat × Int × Int) × List (Nat × Int)} {outs : List ck_Oc} {bc bs pc : Nat} {L : gm_L} {st : List gm_V} {n : Nat} {K : gm_K} {R : gm_R} {M : gm_M} {AL : ck_AL} {AS : ck_AS} {F : ck_F} {σ σ0 : Nat → Int} {K0 : gm_K} {R0 : gm_R} {M0 : gm_M} {k : Nat → Nat → Nat → ck_AL → ck_AS → Nat → ck_F → Bool}
theorem ck_j_ineg   (hat : gm_at mi pc = some (.ineg)) (hS : ck_St O σ W n0 K0 R0 M0 AL AS F L st n K R M) (hk : ck_On O X LX σ mi d W n0 K0 R0 M0 (ck_Q O σ0 W n0 K0 R0 M0 outs) k) (h : ck_j O lx XF E mi d n0 W outs bc bs pc AL AS n F k (.ineg) = true) : gm_Wp X LX d bc bs mi pc L st n K R M (ck_Q O σ0 W n0 K0 R0 M0 outs) := by
  rcases AS with _ | ⟨⟨a | a | r | c, s⟩, AS⟩ <;> (try exact absurd (show false = true from h) Bool.false_ne_true)
  obtain ⟨f1, f2, f3, f4, f5⟩ := hS
  obtain ⟨x, st, rfl, hx, ha, -, hst⟩ := ck_qi f3
  refine gm_sz (gm_p_un hat rfl) (ck_nv (hk _ _ _ _ _ _ _ _ _ _ _ _ h ⟨f1, f2, ck_pi (ck_w_ir _) (ck_nrm_s ⟨?_, ?_, ck_gt_none⟩) trivial hst, f4, f5⟩))
  · have := ha.2.1
    show - a.2.1 ≤ - x
    omega
  · have := ha.1
    show - x ≤ - a.1
    omega
theorem ck_j_i2b   (hat : gm_at mi pc = some (.i2b)) (hS : ck_St O σ W n0 K0 R0 M0 AL AS F L st n K R M) (hk : ck_On O X LX σ mi d W n0 K0 R0 M0 (ck_Q O σ0 W n0 K0 R0 M0 outs) k) (h : ck_j O lx XF E mi d n0 W outs bc bs pc AL AS n F k (.i2b) = true) : gm_Wp X LX d bc bs mi pc L st n K R M (ck_Q O σ0 W n0 K0 R0 M0 outs) := by
  rcases AS with _ | ⟨⟨a | a | r | c, s⟩, AS⟩ <;> (try exact absurd (show false = true from h) Bool.false_ne_true)
  obtain ⟨f1, f2, f3, f4, f5⟩ := hS
  obtain ⟨x, st, rfl, hx, ha, -, hst⟩ := ck_qi f3
  have h0 : -128 ≤ gm_wb x ∧ gm_wb x ≤ 127 := by unfold gm_wb; omega
  refine gm_sz (gm_p_un hat rfl) (hk _ _ _ _ _ _ _ _ _ _ _ _ h ⟨f1, f2, ck_pi (by unfold gm_ir; omega) ?_ trivial hst, f4, f5⟩)
  split
  · rename_i e
    have h1 : gm_wb x = x := by
      have := ha.1
      have := ha.2.1
      unfold gm_wb
      omega
    rw [h1]
    exact ha
  · exact ⟨h0.1, h0.2, ck_gt_none⟩
theorem ck_j_i2l   (hat : gm_at mi pc = some (.i2l)) (hS : ck_St O σ W n0 K0 R0 M0 AL AS F L st n K R M) (hk : ck_On O X LX σ mi d W n0 K0 R0 M0 (ck_Q O σ0 W n0 K0 R0 M0 outs) k) (h : ck_j O lx XF E mi d n0 W outs bc bs pc AL AS n F k (.i2l) = true) : gm_Wp X LX d bc bs mi pc L st n K R M (ck_Q O σ0 W n0 K0 R0 M0 outs) := by
  rcases AS with _ | ⟨⟨a | a | r | c, s⟩, AS⟩ <;> (try exact absurd (show false = true from h) Bool.false_ne_true)
  obtain ⟨f1, f2, f3, f4, f5⟩ := hS
  obtain ⟨x, st, rfl, hx, ha, -, hst⟩ := ck_qi f3
  have h1 := gm_p_i2l (X := X) (LX := LX) (d := d) (L := L) (st := st) (n := n) (K := K) (R := R) (M := M) (x := x) hat
  rw [gm_ir_w hx] at h1
  exact gm_sz h1 (hk _ _ _ _ _ _ _ _ _ _ _ _ h ⟨f1, f2, ck_pl (ck_r6_i hx) ha hst, f4, f5⟩)
theorem ck_j_l2i   (hat : gm_at mi pc = some (.l2i)) (hS : ck_St O σ W n0 K0 R0 M0 AL AS F L st n K R M) (hk : ck_On O X LX σ mi d W n0 K0 R0 M0 (ck_Q O σ0 W n0 K0 R0 M0 outs) k) (h : ck_j O lx XF E mi d n0 W outs bc bs pc AL AS n F k (.l2i) = true) : gm_Wp X LX d bc bs mi pc L st n K R M (ck_Q O σ0 W n0 K0 R0 M0 outs) := by
  rcases AS with _ | ⟨⟨a | a | r | c, s⟩, AS⟩ <;> (try exact absurd (show false = true from h) Bool.false_ne_true)
  obtain ⟨f1, f2, f3, f4, f5⟩ := hS
  obtain ⟨x, st, rfl, hx, ha, hst⟩ := ck_ql f3
  exact gm_sz (gm_p_l2i hat) (ck_nv (hk _ _ _ _ _ _ _ _ _ _ _ _ h ⟨f1, f2, ck_pi (ck_w_ir _) (ck_nrm_s ha) trivial hst, f4, f5⟩))
theorem ck_j_lcmp   (hat : gm_at mi pc = some (.lcmp)) (hS : ck_St O σ W n0 K0 R0 M0 AL AS F L st n K R M) (hk : ck_On O X LX σ mi d W n0 K0 R0 M0 (ck_Q O σ0 W n0 K0 R0 M0 outs) k) (h : ck_j O lx XF E mi d n0 W outs bc bs pc AL AS n F k (.lcmp) = true) : gm_Wp X LX d bc bs mi pc L st n K R M (ck_Q O σ0 W n0 K0 R0 M0 outs) := by
  rcases AS with _ | ⟨⟨b | b | r | c, t⟩, _ | ⟨⟨a | a | r' | c', s⟩, AS⟩⟩ <;> (try exact absurd (show false = true from h) Bool.false_ne_true)
  obtain ⟨f1, f2, f3, f4, f5⟩ := hS
  obtain ⟨y, st, rfl, hy, hb, hst⟩ := ck_ql f3
  obtain ⟨x, st, rfl, hx, ha, hst⟩ := ck_ql hst
  have hx1 : gm_w6 x = x := by unfold ck_r6 at hx; unfold gm_w6; omega
  have hy1 : gm_w6 y = y := by unfold ck_r6 at hy; unfold gm_w6; omega
  have h0 : gm_lcm x y = if y < x then 1 else if x = y then 0 else -1 := by unfold gm_lcm; rw [hx1, hy1]
  refine gm_sz (gm_p_lcmp hat) (hk _ _ _ _ _ _ _ _ _ _ _ _ h ⟨f1, f2, ck_pi ?_ ?_ trivial hst, f4, f5⟩)
  · rw [h0]
    split
    · exact ⟨by decide, by decide⟩
    · split <;> exact ⟨by decide, by decide⟩
  · obtain ⟨a1, a2, a3⟩ := _root_.id ha
    obtain ⟨b1, b2, b3⟩ := _root_.id hb
    split
    · rename_i e
      simp only [Bool.and_eq_true, Bool.or_eq_true] at e
      obtain ⟨⟨e1, e2⟩, e3⟩ := e
      have hxy : x = y := by
        rcases e3 with e3 | e4
        · have e5 := ck_sg_s ha e3
          have e6 := ck_leI_s e2 hb
          have e7 := ck_sg_s e6 e3
          omega
        · unfold ck_ex at e4
          obtain ⟨p, hp, e8⟩ := List.any_eq_true.mp e4
          have e8 := of_decide_eq_true e8
          have e5 := ((ck_leI_s e1 ha).2.2 p hp).1 e8
          have e6 := (b3 p hp).1 e8
          omega
      rw [h0, if_neg (by omega), if_pos hxy]
      exact ck_one_s 0
    · split
      · rw [h0, if_neg (by omega), if_neg (by omega)]
        exact ck_one_s (-1)
      · split
        · rw [h0, if_pos (by omega)]
          exact ck_one_s 1
        · rw [h0]
          refine ⟨?_, ?_, ck_gt_none⟩ <;> dsimp only <;> split <;> (try split) <;> decide
theorem ck_j_idiv   (hat : gm_at mi pc = some (.idiv)) (hS : ck_St O σ W n0 K0 R0 M0 AL AS F L st n K R M) (hk : ck_On O X LX σ mi d W n0 K0 R0 M0 (ck_Q O σ0 W n0 K0 R0 M0 outs) k) (h : ck_j O lx XF E mi d n0 W outs bc bs pc AL AS n F k (.idiv) = true) : gm_Wp X LX d bc bs mi pc L st n K R M (ck_Q O σ0 W n0 K0 R0 M0 outs) := by
  rcases AS with _ | ⟨⟨b | b | r | c, t⟩, _ | ⟨⟨a | a | r' | c', s⟩, AS⟩⟩ <;> (try exact absurd (show false = true from h) Bool.false_ne_true)
  obtain ⟨f1, f2, f3, f4, f5⟩ := hS
  obtain ⟨y, st, rfl, hy, hb, -, hst⟩ := ck_qi f3
  obtain ⟨x, st, rfl, hx, ha, hsx, hst⟩ := ck_qi hst
  have h : ((decide (0 < b.1) || decide (b.2.1 < 0)) && cond (ck_sgl a b s) (ck_br .lt a s (ck_one 0) none AL F (fun AL F => k bc bs (pc + 1) AL ((.inl (ck_dv (ck_rf .lt a (ck_one 0)) b), none) :: AS) n F) && ck_br .ge a s (ck_one 0) none AL F (fun AL F => k bc bs (pc + 1) AL ((.inl (ck_dv (ck_rf .ge a (ck_one 0)) b), none) :: AS) n F)) (k bc bs (pc + 1) AL ((.inl (ck_dv a b), none) :: AS) n F)) = true := h
  rw [Bool.and_eq_true] at h
  obtain ⟨h8, h⟩ := h
  simp only [Bool.or_eq_true, decide_eq_true_eq] at h8
  obtain ⟨b1, b2, b3⟩ := _root_.id hb
  have hne : ¬ gm_w y = 0 := by rw [gm_ir_w hy]; omega
  have h0 : gm_div x y = Int.tdiv x y := by unfold gm_div; rw [gm_ir_w hx, gm_ir_w hy]
  have key : ∀ a' : ck_I, ck_gi σ a' x → ck_gi σ (ck_dv a' b) (gm_w (gm_div x y)) := by
    intro a' ha'
    obtain ⟨a1, a2, a3⟩ := _root_.id ha'
    rw [h0]
    unfold ck_dv
    split
    · rename_i e
      rw [Bool.and_eq_true] at e
      rw [ck_sg_s ha' e.1, ck_sg_s hb e.2]
      exact ck_one_s _
    · split
      · rename_i e
        have hx0 : 0 ≤ x := by omega
        have hy0 : 0 < y := by omega
        have h3 : Int.tdiv x y = x / y := Int.tdiv_eq_ediv_of_nonneg hx0
        have h4 : 0 ≤ x / y := Int.ediv_nonneg hx0 (by omega)
        have h5 : x / y ≤ x := Int.ediv_le_self y hx0
        rw [h3]
        rw [gm_ir_w (by unfold gm_ir at hx ⊢; omega)]
        exact ⟨h4, by dsimp only; omega, ck_gt_none⟩
      · exact ck_top_s _
  refine gm_sz (gm_p_div hat hne) (ck_nv ?_)
  cases hg : ck_sgl a b s with
  | false =>
    rw [hg] at h
    exact hk _ _ _ _ _ _ _ _ _ _ _ _ h ⟨f1, f2, ck_pi (ck_w_ir _) (key a ha) (s := none) trivial hst, f4, f5⟩
  | true =>
    rw [hg] at h
    have h : (ck_br .lt a s (ck_one 0) none AL F (fun AL F => k bc bs (pc + 1) AL ((.inl (ck_dv (ck_rf .lt a (ck_one 0)) b), none) :: AS) n F) && ck_br .ge a s (ck_one 0) none AL F (fun AL F => k bc bs (pc + 1) AL ((.inl (ck_dv (ck_rf .ge a (ck_one 0)) b), none) :: AS) n F)) = true := h
    rw [Bool.and_eq_true] at h
    have hS0 : ck_St O σ W n0 K0 R0 M0 AL AS F L st n K R M := ⟨f1, f2, hst, f4, f5⟩
    by_cases hx0 : x < 0
    · have hc : gm_cm .lt x 0 := hx0
      exact ck_br_s (c := .lt) hS0 hx ha hsx ⟨by decide, by decide⟩ (ck_one_s 0) (t := none) trivial hc h.1 (fun AL F hq hS => hk _ _ _ _ _ _ _ _ _ _ _ _ hq ⟨hS.1, hS.2.1, ck_pi (ck_w_ir _) (key _ (ck_rf_s ha (ck_one_s 0) hc)) (s := none) trivial hS.2.2.1, hS.2.2.2.1, hS.2.2.2.2⟩)
    · have hc : gm_cm .ge x 0 := by show (0 : Int) ≤ x; omega
      exact ck_br_s (c := .ge) hS0 hx ha hsx ⟨by decide, by decide⟩ (ck_one_s 0) (t := none) trivial hc h.2 (fun AL F hq hS => hk _ _ _ _ _ _ _ _ _ _ _ _ hq ⟨hS.1, hS.2.1, ck_pi (ck_w_ir _) (key _ (ck_rf_s ha (ck_one_s 0) hc)) (s := none) trivial hS.2.2.1, hS.2.2.2.1, hS.2.2.2.2⟩)
theorem ck_j_irem   (hat : gm_at mi pc = some (.irem)) (hS : ck_St O σ W n0 K0 R0 M0 AL AS F L st n K R M) (hk : ck_On O X LX σ mi d W n0 K0 R0 M0 (ck_Q O σ0 W n0 K0 R0 M0 outs) k) (h : ck_j O lx XF E mi d n0 W outs bc bs pc AL AS n F k (.irem) = true) : gm_Wp X LX d bc bs mi pc L st n K R M (ck_Q O σ0 W n0 K0 R0 M0 outs) := by
  rcases AS with _ | ⟨⟨b | b | r | c, t⟩, _ | ⟨⟨a | a | r' | c', s⟩, AS⟩⟩ <;> (try exact absurd (show false = true from h) Bool.false_ne_true)
  obtain ⟨f1, f2, f3, f4, f5⟩ := hS
  obtain ⟨y, st, rfl, hy, hb, -, hst⟩ := ck_qi f3
  obtain ⟨x, st, rfl, hx, ha, -, hst⟩ := ck_qi hst
  have h : ((decide (0 < b.1) || decide (b.2.1 < 0)) && k bc bs (pc + 1) AL ((.inl (if (ck_sg a && ck_sg b) = true then ck_one (gm_w (Int.tmod a.1 b.1)) else if 0 ≤ a.1 ∧ 0 < b.1 then (0, b.2.1 - 1, []) else ck_top), none) :: AS) n F) = true := h
  simp only [Bool.and_eq_true, Bool.or_eq_true, decide_eq_true_eq] at h
  obtain ⟨a1, a2, a3⟩ := _root_.id ha
  obtain ⟨b1, b2, b3⟩ := _root_.id hb
  have hne : ¬ gm_w y = 0 := by rw [gm_ir_w hy]; omega
  have h0 : gm_rem x y = Int.tmod x y := by unfold gm_rem; rw [gm_ir_w hx, gm_ir_w hy]
  refine gm_sz (gm_p_rem hat hne) (ck_nv (hk _ _ _ _ _ _ _ _ _ _ _ _ h.2 ⟨f1, f2, ck_pi (ck_w_ir _) ?_ trivial hst, f4, f5⟩))
  rw [h0]
  split
  · rename_i e
    rw [ck_sg_s ha e.1, ck_sg_s hb e.2]
    exact ck_one_s _
  · split
    · rename_i e
      have hx0 : 0 ≤ x := by omega
      have hy0 : 0 < y := by omega
      have h3 : Int.tmod x y = x % y := Int.tmod_eq_emod_of_nonneg hx0
      have h4 : 0 ≤ x % y := Int.emod_nonneg x (by omega)
      have h5 : x % y < y := Int.emod_lt_of_pos x hy0
      rw [h3]
      rw [gm_ir_w (by unfold gm_ir at hy ⊢; omega)]
      exact ⟨h4, by dsimp only; omega, ck_gt_none⟩
    · exact ck_top_s _
theorem ck_j_dup   (hat : gm_at mi pc = some (.dup)) (hS : ck_St O σ W n0 K0 R0 M0 AL AS F L st n K R M) (hk : ck_On O X LX σ mi d W n0 K0 R0 M0 (ck_Q O σ0 W n0 K0 R0 M0 outs) k) (h : ck_j O lx XF E mi d n0 W outs bc bs pc AL AS n F k (.dup) = true) : gm_Wp X LX d bc bs mi pc L st n K R M (ck_Q O σ0 W n0 K0 R0 M0 outs) := by
  rcases AS with _ | ⟨q, AS⟩ <;> (try exact absurd (show false = true from h) Bool.false_ne_true)
  obtain ⟨f1, f2, f3, f4, f5⟩ := hS
  obtain ⟨v, st, rfl, hso, hv, hst⟩ := ck_q1 f3
  have h : (!(ck_so q.1 == 1) && k bc bs (pc + 1) AL (q :: q :: AS) n F) = true := h
  simp only [Bool.and_eq_true, Bool.not_eq_true', beq_eq_false_iff_ne, ne_eq] at h
  exact gm_sz (gm_p_dup hat (by rw [hso]; exact h.1)) (hk _ _ _ _ _ _ _ _ _ _ _ _ h.2 ⟨f1, f2, ⟨v, v :: st, rfl, hv, v, st, rfl, hv, hst⟩, f4, f5⟩)
theorem ck_j_pop   (hat : gm_at mi pc = some (.pop)) (hS : ck_St O σ W n0 K0 R0 M0 AL AS F L st n K R M) (hk : ck_On O X LX σ mi d W n0 K0 R0 M0 (ck_Q O σ0 W n0 K0 R0 M0 outs) k) (h : ck_j O lx XF E mi d n0 W outs bc bs pc AL AS n F k (.pop) = true) : gm_Wp X LX d bc bs mi pc L st n K R M (ck_Q O σ0 W n0 K0 R0 M0 outs) := by
  rcases AS with _ | ⟨q, AS⟩ <;> (try exact absurd (show false = true from h) Bool.false_ne_true)
  obtain ⟨f1, f2, f3, f4, f5⟩ := hS
  obtain ⟨v, st, rfl, hso, hv, hst⟩ := ck_q1 f3
  have h : (!(ck_so q.1 == 1) && k bc bs (pc + 1) AL AS n F) = true := h
  simp only [Bool.and_eq_true, Bool.not_eq_true', beq_eq_false_iff_ne, ne_eq] at h
  exact gm_sz (gm_p_pop hat (by rw [hso]; exact h.1)) (hk _ _ _ _ _ _ _ _ _ _ _ _ h.2 ⟨f1, f2, hst, f4, f5⟩)
theorem ck_j_dup2   (hat : gm_at mi pc = some (.dup2)) (hS : ck_St O σ W n0 K0 R0 M0 AL AS F L st n K R M) (hk : ck_On O X LX σ mi d W n0 K0 R0 M0 (ck_Q O σ0 W n0 K0 R0 M0 outs) k) (h : ck_j O lx XF E mi d n0 W outs bc bs pc AL AS n F k (.dup2) = true) : gm_Wp X LX d bc bs mi pc L st n K R M (ck_Q O σ0 W n0 K0 R0 M0 outs) := by
  rcases AS with _ | ⟨q, _ | ⟨q2, AS⟩⟩ <;> (try exact absurd (show false = true from h) Bool.false_ne_true)
  obtain ⟨f1, f2, f3, f4, f5⟩ := hS
  obtain ⟨v, st, rfl, hso, hv, hst⟩ := ck_q1 f3
  obtain ⟨u, st, rfl, hso2, hu, hst⟩ := ck_q1 hst
  have h : ((!(ck_so q.1 == 1) && !(ck_so q2.1 == 1)) && k bc bs (pc + 1) AL (q :: q2 :: q :: q2 :: AS) n F) = true := h
  simp only [Bool.and_eq_true, Bool.not_eq_true', beq_eq_false_iff_ne, ne_eq] at h
  exact gm_sz (gm_p_dup2 hat (by rw [hso]; exact h.1.1) (by rw [hso2]; exact h.1.2)) (hk _ _ _ _ _ _ _ _ _ _ _ _ h.2 ⟨f1, f2, ⟨v, _, rfl, hv, u, _, rfl, hu, v, _, rfl, hv, u, _, rfl, hu, hst⟩, f4, f5⟩)
theorem ck_j_iinc {j : Nat} {z : Int}  (hat : gm_at mi pc = some (.iinc j z)) (hS : ck_St O σ W n0 K0 R0 M0 AL AS F L st n K R M) (hk : ck_On O X LX σ mi d W n0 K0 R0 M0 (ck_Q O σ0 W n0 K0 R0 M0 outs) k) (h : ck_j O lx XF E mi d n0 W outs bc bs pc AL AS n F k (.iinc j z) = true) : gm_Wp X LX d bc bs mi pc L st n K R M (ck_Q O σ0 W n0 K0 R0 M0 outs) := by
  obtain ⟨f1, f2, f3, f4, f5⟩ := hS
  unfold ck_j at h
  dsimp only at h
  split at h
  · rename_i a hj
    obtain ⟨u, hu, x, rfl, hx, ha⟩ := f2.2 j _ hj
    split at h
    case isFalse => exact gm_sz (gm_p_iinc hat hu) (ck_nvL (hk _ _ _ _ _ _ _ _ _ _ _ _ h ⟨f1, ck_lst_s f2 (a := .inl _) ⟨_, rfl, ck_w_ir _, ck_top_s _⟩, ck_sl_s f3, f4, f5⟩))
    rename_i h1
    have ha2 : ck_gi σ (a.1 + z, a.2.1 + z, ck_mv a.2.2 z) (x + z) := ⟨Int.add_le_add_right ha.1 z, Int.add_le_add_right ha.2.1 z, ck_mv_s ha.2.2⟩
    have hx2 : gm_ir (x + z) := ck_in_s (σ := σ) (a := (a.1 + z, a.2.1 + z, [])) ⟨ha2.1, ha2.2.1, ck_gt_none⟩ h1
    exact gm_sz (gm_p_iinc hat hu) (hk _ _ _ _ _ _ _ _ _ _ _ _ h ⟨f1, ck_lst_s f2 (a := .inl _) ⟨_, rfl, hx2, ha2⟩, ck_sl_s f3, f4, f5⟩)
  · cases h
theorem ck_j_goto {off : Int}  (hat : gm_at mi pc = some (.goto off)) (hS : ck_St O σ W n0 K0 R0 M0 AL AS F L st n K R M) (hk : ck_On O X LX σ mi d W n0 K0 R0 M0 (ck_Q O σ0 W n0 K0 R0 M0 outs) k) (h : ck_j O lx XF E mi d n0 W outs bc bs pc AL AS n F k (.goto off) = true) : gm_Wp X LX d bc bs mi pc L st n K R M (ck_Q O σ0 W n0 K0 R0 M0 outs) := by
  obtain ⟨f1, f2, f3, f4, f5⟩ := hS
  have h : (decide (0 ≤ (pc : Int) + off) && k bc bs (gm_tgt pc off) AL AS n F) = true := h
  simp only [Bool.and_eq_true, decide_eq_true_eq] at h
  exact gm_sz (gm_p_goto hat h.1) (hk _ _ _ _ _ _ _ _ _ _ _ _ h.2 ⟨f1, f2, f3, f4, f5⟩)
theorem ck_rE_St (hS : ck_St O σ W n0 K0 R0 M0 AL AS F L st n K R M) : ck_St O σ W n0 K0 R0 M0 AL AS (ck_rE O F) L st n K R M := ⟨hS.1, hS.2.1, hS.2.2.1, ck_rE_s hS.1 hS.2.2.2.1, hS.2.2.2.2⟩
theorem ck_j_if {cc : ClassFile.Cond} {off : Int}  (hat : gm_at mi pc = some (.ifCond cc off)) (hS : ck_St O σ W n0 K0 R0 M0 AL AS F L st n K R M) (hk : ck_On O X LX σ mi d W n0 K0 R0 M0 (ck_Q O σ0 W n0 K0 R0 M0 outs) k) (h : ck_j O lx XF E mi d n0 W outs bc bs pc AL AS n F k (.ifCond cc off) = true) : gm_Wp X LX d bc bs mi pc L st n K R M (ck_Q O σ0 W n0 K0 R0 M0 outs) := by
  rcases AS with _ | ⟨⟨a | a | r | c, s⟩, AS⟩ <;> (try exact absurd (show false = true from h) Bool.false_ne_true)
  obtain ⟨x, st, rfl, hx, ha, hs9, hst⟩ := ck_qi hS.2.2.1
  have hS2 : ck_St O σ W n0 K0 R0 M0 AL AS F L st n K R M := ⟨hS.1, hS.2.1, hst, hS.2.2.2.1, hS.2.2.2.2⟩
  have h : (decide (0 ≤ (pc : Int) + off) && (ck_br cc a s (ck_one 0) none AL F (fun AL F => k bc bs (gm_tgt pc off) AL AS n (ck_rE O F)) && ck_br (ck_ng cc) a s (ck_one 0) none AL F (fun AL F => k bc bs (pc + 3) AL AS n (ck_rE O F)))) = true := h
  simp only [Bool.and_eq_true, decide_eq_true_eq] at h
  obtain ⟨h1, h2, h3⟩ := h
  have h0 : gm_ir 0 := ⟨by decide, by decide⟩
  refine gm_b_if hat h1 (fun hc => ?_) (fun hc => ?_)
  · rw [gm_cm_w hx h0] at hc
    exact ck_br_s hS2 hx ha hs9 h0 (ck_one_s 0) (t := none) trivial hc h2 (fun AL F hq hS => hk _ _ _ _ _ _ _ _ _ _ _ _ hq (ck_rE_St hS))
  · rw [gm_cm_w hx h0] at hc
    exact ck_br_s hS2 hx ha hs9 h0 (ck_one_s 0) (t := none) trivial (ck_ng_s hc) h3 (fun AL F hq hS => hk _ _ _ _ _ _ _ _ _ _ _ _ hq (ck_rE_St hS))
theorem ck_j_ic {cc : ClassFile.Cond} {off : Int}  (hat : gm_at mi pc = some (.if_icmp cc off)) (hS : ck_St O σ W n0 K0 R0 M0 AL AS F L st n K R M) (hk : ck_On O X LX σ mi d W n0 K0 R0 M0 (ck_Q O σ0 W n0 K0 R0 M0 outs) k) (h : ck_j O lx XF E mi d n0 W outs bc bs pc AL AS n F k (.if_icmp cc off) = true) : gm_Wp X LX d bc bs mi pc L st n K R M (ck_Q O σ0 W n0 K0 R0 M0 outs) := by
  rcases AS with _ | ⟨⟨b | b | r | c, t⟩, _ | ⟨⟨a | a | r' | c', s⟩, AS⟩⟩ <;> (try exact absurd (show false = true from h) Bool.false_ne_true)
  obtain ⟨y, st, rfl, hy, hb, ht9, hst⟩ := ck_qi hS.2.2.1
  obtain ⟨x, st, rfl, hx, ha, hs9, hst⟩ := ck_qi hst
  have hS2 : ck_St O σ W n0 K0 R0 M0 AL AS F L st n K R M := ⟨hS.1, hS.2.1, hst, hS.2.2.2.1, hS.2.2.2.2⟩
  unfold ck_j at h
  dsimp only at h
  rw [Bool.and_eq_true, decide_eq_true_eq] at h
  obtain ⟨h1, h⟩ := h
  cases hl : ck_lkp O F s t with
  | none =>
    rw [hl] at h
    dsimp only at h
    rw [Bool.and_eq_true] at h
    obtain ⟨h2, h3⟩ := h
    refine gm_b_ic hat h1 (fun hc => ?_) (fun hc => ?_)
    · rw [gm_cm_w hx hy] at hc
      exact ck_br_s hS2 hx ha hs9 hy hb ht9 hc h2 (fun AL F hq hS => hk _ _ _ _ _ _ _ _ _ _ _ _ hq (ck_rE_St hS))
    · rw [gm_cm_w hx hy] at hc
      exact ck_br_s hS2 hx ha hs9 hy hb ht9 (ck_ng_s hc) h3 (fun AL F hq hS => hk _ _ _ _ _ _ _ _ _ _ _ _ hq (ck_rE_St hS))
  | some w =>
    rw [hl] at h
    dsimp only at h
    rw [Bool.and_eq_true] at h
    obtain ⟨h2, h3⟩ := h
    obtain ⟨l1, l2, l3⟩ := ck_lkp_s hS.1 hS.2.2.2.1 hs9 ht9 hl
    have h0 : gm_ir 0 := ⟨by decide, by decide⟩
    refine gm_b_ic hat h1 (fun hc => ?_) (fun hc => ?_)
    · rw [gm_cm_w hx hy, ck_cm0] at hc
      exact ck_br_s hS2 l1 l2 l3 h0 (ck_one_s 0) (t := none) trivial hc h2 (fun AL F hq hS => hk _ _ _ _ _ _ _ _ _ _ _ _ hq (ck_rE_St hS))
    · rw [gm_cm_w hx hy, ck_cm0] at hc
      exact ck_br_s hS2 l1 l2 l3 h0 (ck_one_s 0) (t := none) trivial (ck_ng_s hc) h3 (fun AL F hq hS => hk _ _ _ _ _ _ _ _ _ _ _ _ hq (ck_rE_St hS))
theorem ck_j_ifnull {off : Int}  (hat : gm_at mi pc = some (.ifnull off)) (hS : ck_St O σ W n0 K0 R0 M0 AL AS F L st n K R M) (hk : ck_On O X LX σ mi d W n0 K0 R0 M0 (ck_Q O σ0 W n0 K0 R0 M0 outs) k) (h : ck_j O lx XF E mi d n0 W outs bc bs pc AL AS n F k (.ifnull off) = true) : gm_Wp X LX d bc bs mi pc L st n K R M (ck_Q O σ0 W n0 K0 R0 M0 outs) := by
  rcases AS with _ | ⟨⟨a | a | r | c, s⟩, AS⟩ <;> (try exact absurd (show false = true from h) Bool.false_ne_true)
  obtain ⟨f1, f2, f3, f4, f5⟩ := hS
  obtain ⟨st, rfl, hst⟩ := ck_qr f3
  have h : ((decide (0 ≤ (pc : Int) + off) && decide (r < 100000)) && (if r = 0 then k bc bs (gm_tgt pc off) AL AS n F else k bc bs (pc + 3) AL AS n F)) = true := h
  simp only [Bool.and_eq_true, decide_eq_true_eq] at h
  obtain ⟨⟨h1, h9⟩, h2⟩ := h
  refine gm_b_nul h9 hat h1 (fun hc => ?_) (fun hc => ?_)
  · rw [if_pos hc] at h2
    exact hk _ _ _ _ _ _ _ _ _ _ _ _ h2 ⟨f1, f2, hst, f4, f5⟩
  · rw [if_neg hc] at h2
    exact hk _ _ _ _ _ _ _ _ _ _ _ _ h2 ⟨f1, f2, hst, f4, f5⟩
theorem ck_j_ifnonnull {off : Int}  (hat : gm_at mi pc = some (.ifnonnull off)) (hS : ck_St O σ W n0 K0 R0 M0 AL AS F L st n K R M) (hk : ck_On O X LX σ mi d W n0 K0 R0 M0 (ck_Q O σ0 W n0 K0 R0 M0 outs) k) (h : ck_j O lx XF E mi d n0 W outs bc bs pc AL AS n F k (.ifnonnull off) = true) : gm_Wp X LX d bc bs mi pc L st n K R M (ck_Q O σ0 W n0 K0 R0 M0 outs) := by
  rcases AS with _ | ⟨⟨a | a | r | c, s⟩, AS⟩ <;> (try exact absurd (show false = true from h) Bool.false_ne_true)
  obtain ⟨f1, f2, f3, f4, f5⟩ := hS
  obtain ⟨st, rfl, hst⟩ := ck_qr f3
  have h : ((decide (0 ≤ (pc : Int) + off) && decide (r < 100000)) && (if r = 0 then k bc bs (pc + 3) AL AS n F else k bc bs (gm_tgt pc off) AL AS n F)) = true := h
  simp only [Bool.and_eq_true, decide_eq_true_eq] at h
  obtain ⟨⟨h1, h9⟩, h2⟩ := h
  refine gm_b_nnul h9 hat h1 (fun hc => ?_) (fun hc => ?_)
  · rw [if_neg hc] at h2
    exact hk _ _ _ _ _ _ _ _ _ _ _ _ h2 ⟨f1, f2, hst, f4, f5⟩
  · rw [if_pos hc] at h2
    exact hk _ _ _ _ _ _ _ _ _ _ _ _ h2 ⟨f1, f2, hst, f4, f5⟩
theorem ck_swk_s {a : ck_I} {s : ck_S} {x : Int} {g : Nat → Prop} {kk : Nat → ck_AL → ck_F → Bool} (hS : ck_St O σ W n0 K0 R0 M0 AL AS F L st n K R M) (hx : gm_ir x) (ha : ck_gi σ a x) (hs : ck_gr L M s (gm_vi x)) (hg : ∀ q AL F, kk q AL F = true → ck_St O σ W n0 K0 R0 M0 AL AS F L st n K R M → g q) : ∀ (os : List Int) (v : Int), (gm_ir v ∧ v + os.length ≤ 2147483648) → ck_swk a s AL F pc kk os v = true → gm_swt x g pc os v := by
  intro os
  induction os with
  | nil => intro v _ _; trivial
  | cons o os ih =>
    intro v hv h
    have h : (ck_br .eq a s (ck_one v) none AL F (kk (gm_tgt pc o)) && ck_swk a s AL F pc kk os (v + 1)) = true := h
    rw [Bool.and_eq_true] at h
    simp only [List.length_cons] at hv
    refine ⟨fun e => ?_, ?_⟩
    · have e2 : x = v := by
        rw [gm_ir_w hx] at e
        exact e
      exact ck_br_s hS hx ha hs hv.1 (ck_one_s v) (t := none) trivial (c := .eq) e2 h.1 (fun AL F hq hS => hg _ _ _ hq hS)
    · cases os with
      | nil => trivial
      | cons o2 os => exact ih (v + 1) ⟨by have := hv.1; unfold gm_ir at *; simp only [List.length_cons] at hv; omega, by simp only [List.length_cons] at hv ⊢; omega⟩ h.2
theorem ck_j_sw {df lo hi : Int} {offs : Array Int}  (hat : gm_at mi pc = some (.tableswitch df lo hi offs)) (hS : ck_St O σ W n0 K0 R0 M0 AL AS F L st n K R M) (hk : ck_On O X LX σ mi d W n0 K0 R0 M0 (ck_Q O σ0 W n0 K0 R0 M0 outs) k) (h : ck_j O lx XF E mi d n0 W outs bc bs pc AL AS n F k (.tableswitch df lo hi offs) = true) : gm_Wp X LX d bc bs mi pc L st n K R M (ck_Q O σ0 W n0 K0 R0 M0 outs) := by
  rcases AS with _ | ⟨⟨a | a | r | c, s⟩, AS⟩ <;> (try exact absurd (show false = true from h) Bool.false_ne_true)
  obtain ⟨x, st, rfl, hx, ha, hs9, hst⟩ := ck_qi hS.2.2.1
  have hS2 : ck_St O σ W n0 K0 R0 M0 AL AS F L st n K R M := ⟨hS.1, hS.2.1, hst, hS.2.2.2.1, hS.2.2.2.2⟩
  have h : ((decide (((offs.size : Nat) : Int) = hi - lo + 1) && (decide (0 ≤ (pc : Int) + df) && (offs.toList.all (fun o => decide (0 ≤ (pc : Int) + o)) && (decide (-2147483647 ≤ lo) && decide (hi < 2147483647))))) && ((ck_br .lt a s (ck_one lo) none AL F (fun AL F => k bc bs (gm_tgt pc df) AL AS n F) && ck_br .gt a s (ck_one hi) none AL F (fun AL F => k bc bs (gm_tgt pc df) AL AS n F)) && ck_swk a s AL F pc (fun q AL F => k bc bs q AL AS n F) offs.toList lo)) = true := h
  simp only [Bool.and_eq_true, decide_eq_true_eq, List.all_eq_true] at h
  obtain ⟨⟨h1, h2, h3, h4, h5⟩, ⟨h6, h7⟩, h8⟩ := h
  have hlo : gm_ir lo := by unfold gm_ir; omega
  have hhi : gm_ir hi := by unfold gm_ir; omega
  refine gm_b_sw hat h1 ⟨h2, h3⟩ (fun hc => ?_) (ck_swk_s hS2 hx ha hs9 (fun q AL F hq hS => hk _ _ _ _ _ _ _ _ _ _ _ _ hq hS) _ _ ⟨hlo, ?_⟩ h8)
  · rw [gm_ir_w hx] at hc
    rcases hc with hc | hc
    · exact ck_br_s hS2 hx ha hs9 hlo (ck_one_s lo) (t := none) trivial (c := .lt) hc h6 (fun AL F hq hS => hk _ _ _ _ _ _ _ _ _ _ _ _ hq hS)
    · exact ck_br_s hS2 hx ha hs9 hhi (ck_one_s hi) (t := none) trivial (c := .gt) hc h7 (fun AL F hq hS => hk _ _ _ _ _ _ _ _ _ _ _ _ hq hS)
  · rw [Array.length_toList]
    omega
end CI
end
/-! 25.cm -/
section
/-! THE CHECKER: heap, calls and ends. -/
section CM
variable {O : gm_Or} {X : Int → Int} {LX : Nat} {lx : Option Nat} {XF : List (Int × Int × ck_I)} {E : List (Nat × List ck_Sum)} {mi d n0 : Nat} {W : List (Nat × Int × Int) × List (Nat × Int)} {outs : List ck_Oc} {bc bs pc : Nat} {L : gm_L} {st : List gm_V} {n : Nat} {K : gm_K} {R : gm_R} {M : gm_M} {AL : ck_AL} {AS : ck_AS} {F : ck_F} {σ σ0 : Nat → Int} {K0 : gm_K} {R0 : gm_R} {M0 : gm_M} {k : Nat → Nat → Nat → ck_AL → ck_AS → Nat → ck_F → Bool}
theorem ck_gr0 {k : Nat} {j : Int} (x : Int) {L : gm_L} {M : gm_M} (h : M k j = x := by rfl) : ck_gr L M (some (.inr (.inl (k, j, 0)))) (gm_vi x) := by
  show gm_vi x = gm_vi (M k j + 0)
  rw [Int.add_zero, h]
theorem ck_j_get {ix : Nat}  (hat : gm_at mi pc = some (.getfield ix)) (hS : ck_St O σ W n0 K0 R0 M0 AL AS F L st n K R M) (hk : ck_On O X LX σ mi d W n0 K0 R0 M0 (ck_Q O σ0 W n0 K0 R0 M0 outs) k) (h : ck_j O lx XF E mi d n0 W outs bc bs pc AL AS n F k (.getfield ix) = true) : gm_Wp X LX d bc bs mi pc L st n K R M (ck_Q O σ0 W n0 K0 R0 M0 outs) := by
  rcases AS with _ | ⟨⟨a | a | r | c, s⟩, AS⟩ <;> (try exact absurd (show false = true from h) Bool.false_ne_true)
  obtain ⟨f1, f2, f3, f4, f5⟩ := hS
  obtain ⟨st, rfl, hst⟩ := ck_qr f3
  unfold ck_j at h
  dsimp only at h
  cases hq : ck_kd O F r with
  | none => rw [hq] at h; cases h
  | some q =>
    rw [hq] at h
    dsimp only at h
    obtain ⟨h1, h2⟩ := ck_kd_s f1 f4 hq
    cases hj : gm_fld (gm_ow mi) ix (q.1 - 4) with
    | none => rw [hj] at h; cases h
    | some j =>
      rw [hj] at h
      dsimp only at h
      rw [Bool.and_eq_true, decide_eq_true_eq] at h
      obtain ⟨h3, h⟩ := h
      have hg := gm_p_get (X := X) (LX := LX) (d := d) (L := L) (st := st) (n := n) (K := K) (R := R) (M := M) hat h1 (show (K r).1 = (q.1 - 4) + 4 by rw [h2]; omega) hj
      split at h
      · rename_i e
        rw [if_pos e] at hg
        cases hv : ck_fR O F r j with
        | none => rw [hv] at h; cases h
        | some v =>
          rw [hv] at h
          obtain ⟨-, h5⟩ := ck_fR_s f1 f4 hv
          rw [h5] at hg
          exact gm_sz hg (hk _ _ _ _ _ _ _ _ _ _ _ _ h ⟨f1, f2, ck_pr hst, f4, f5⟩)
      · rename_i e
        rw [if_neg e] at hg
        cases hf : ck_fi F r j j with
        | some a =>
          rw [hf] at h
          have h5 := (ck_fi_s f4 hf).2 j (Int.le_refl _) (Int.le_refl _)
          exact gm_sz hg (hk _ _ _ _ _ _ _ _ _ _ _ _ h ⟨f1, f2, ck_pi h5.1 h5.2 (s := some (.inr (.inl (r, (j : Int), 0)))) (ck_gr0 _) hst, f4, f5⟩)
        | none =>
          rw [hf] at h
          dsimp only at h
          cases ht : gm_tyr O r j j with
          | some t =>
            rw [ht] at h
            have h5 := (gm_tyr_s f1 ht).2 j (Int.le_refl _) (Int.le_refl _)
            exact gm_sz hg (hk _ _ _ _ _ _ _ _ _ _ _ _ h ⟨f1, f2, ck_pi (a := (t.1, t.2, [])) h5.1 ⟨h5.2.1, h5.2.2, fun _ h => nomatch h⟩ (s := some (.inr (.inl (r, (j : Int), 0)))) (ck_gr0 _) hst, ck_tf_s f1 f4 ht, f5⟩)
          | none =>
            rw [ht] at h
            exact gm_sz hg (ck_nv (hk _ _ _ _ _ _ _ _ _ _ _ _ h ⟨f1, f2, ck_pi (ck_w_ir _) (ck_top_s _) (s := none) trivial hst, f4, f5⟩))
theorem ck_j_put {ix : Nat}  (hat : gm_at mi pc = some (.putfield ix)) (hS : ck_St O σ W n0 K0 R0 M0 AL AS F L st n K R M) (hk : ck_On O X LX σ mi d W n0 K0 R0 M0 (ck_Q O σ0 W n0 K0 R0 M0 outs) k) (h : ck_j O lx XF E mi d n0 W outs bc bs pc AL AS n F k (.putfield ix) = true) : gm_Wp X LX d bc bs mi pc L st n K R M (ck_Q O σ0 W n0 K0 R0 M0 outs) := by
  rcases AS with _ | ⟨⟨a | a | v | c, s⟩, _ | ⟨⟨b | b | r | c', t⟩, AS⟩⟩ <;> (try exact absurd (show false = true from h) Bool.false_ne_true)
  · obtain ⟨f1, f2, f3, f4, f5⟩ := hS
    obtain ⟨x, st, rfl, hx, ha, hsx, hst⟩ := ck_qi f3
    obtain ⟨st, e0, hst'⟩ := ck_qr hst
    subst e0
    replace hst := hst'
    unfold ck_j at h
    dsimp only at h
    cases hq : ck_kd O F r with
    | none => rw [hq] at h; cases h
    | some q =>
      rw [hq] at h
      dsimp only at h
      obtain ⟨h1, h2⟩ := ck_kd_s f1 f4 hq
      cases hj : gm_fld (gm_ow mi) ix (q.1 - 4) with
      | none => rw [hj] at h; cases h
      | some j =>
        rw [hj] at h
        dsimp only at h
        cases hgp : ck_gp O F r j s a with
        | some g =>
          rw [hgp] at h
          dsimp only at h
          simp only [Bool.and_eq_true, decide_eq_true_eq, beq_iff_eq] at h
          obtain ⟨⟨h3, h4, h5, h6, h7, h8⟩, h⟩ := h
          obtain ⟨M', m1, m2, m3, m4⟩ := ck_gF_s f1 f4 f5 hx ha hsx hgp h1.2 ⟨h5, h6, h7⟩
          exact gm_sz (gm_p_puti hat h1 (show (K r).1 = (q.1 - 4) + 4 by rw [h2]; omega) hj h4 (.inl h8)) (gm_Wp_g m1 (hk _ _ _ _ _ _ _ _ _ _ _ _ h ⟨m2, f2, ck_sh_s hst, m3, m4⟩))
        | none =>
        rw [hgp] at h
        dsimp only at h
        simp only [Bool.and_eq_true, Bool.or_eq_true, decide_eq_true_eq, beq_iff_eq, Option.isNone_iff_eq_none] at h
        obtain ⟨⟨h3, h4, h5, h6, h7⟩, h⟩ := h
        have hfit : gm_fk (q.1 - 4) j = 0 ∨ gm_fk (q.1 - 4) j = 1 ∧ (x = 0 ∨ x = 1) := by
          rcases h7 with h7 | ⟨h7, h8, h9⟩
          · exact .inl h7
          · refine .inr ⟨h7, ?_⟩
            have := ha.1
            have := ha.2.1
            omega
        exact gm_sz (gm_p_puti hat h1 (show (K r).1 = (q.1 - 4) + 4 by rw [h2]; omega) hj h4 hfit) (hk _ _ _ _ _ _ _ _ _ _ _ _ h ⟨gm_Fx_M f1 h5 (Int.le_refl _) (Int.le_refl _) ha.1 ha.2.1, f2, ck_sh_s hst, ck_upT_s f4 h1.2 (Int.le_refl _) (Int.le_refl _) hx ha, ck_fr_M f5 h6 (Int.le_refl _) (Int.le_refl _)⟩)
  · obtain ⟨f1, f2, f3, f4, f5⟩ := hS
    obtain ⟨st, rfl, hst⟩ := ck_qr f3
    obtain ⟨st, e0, hst'⟩ := ck_qr hst
    subst e0
    replace hst := hst'
    unfold ck_j at h
    dsimp only at h
    cases hq : ck_kd O F r with
    | none => rw [hq] at h; cases h
    | some q =>
      rw [hq] at h
      dsimp only at h
      obtain ⟨h1, h2⟩ := ck_kd_s f1 f4 hq
      cases hj : gm_fld (gm_ow mi) ix (q.1 - 4) with
      | none => rw [hj] at h; cases h
      | some j =>
        rw [hj] at h
        dsimp only at h
        simp only [Bool.and_eq_true, decide_eq_true_eq, beq_iff_eq, Option.isNone_iff_eq_none] at h
        obtain ⟨⟨h3, h4, h5, h6, h7⟩, h⟩ := h
        exact gm_sz (gm_p_putr hat h1 (show (K r).1 = (q.1 - 4) + 4 by rw [h2]; omega) hj h4 h7) (hk _ _ _ _ _ _ _ _ _ _ _ _ h ⟨gm_Fx_R f1 h5, f2, hst, ck_upR_s f4 h1.2, ck_fr_R f5 h6⟩)
theorem ck_j_iald  (hX : ck_OkX σ X XF) (hlx : ∀ l, lx = some l → l = LX) (hat : gm_at mi pc = some (.iaload)) (hS : ck_St O σ W n0 K0 R0 M0 AL AS F L st n K R M) (hk : ck_On O X LX σ mi d W n0 K0 R0 M0 (ck_Q O σ0 W n0 K0 R0 M0 outs) k) (h : ck_j O lx XF E mi d n0 W outs bc bs pc AL AS n F k (.iaload) = true) : gm_Wp X LX d bc bs mi pc L st n K R M (ck_Q O σ0 W n0 K0 R0 M0 outs) := by
  rcases AS with _ | ⟨⟨e | e | r | c, t⟩, _ | ⟨⟨a | a | r | c, s⟩, AS⟩⟩ <;> (try exact absurd (show false = true from h) Bool.false_ne_true)
  · obtain ⟨f1, f2, f3, f4, f5⟩ := hS
    obtain ⟨i, st, rfl, hi, he, -, hst⟩ := ck_qi f3
    obtain ⟨st, e0, hst'⟩ := ck_qr hst
    subst e0
    replace hst := hst'
    unfold ck_j at h
    dsimp only at h
    cases hq : ck_kd O F r with
    | none => rw [hq] at h; cases h
    | some q =>
      rw [hq] at h
      dsimp only at h
      obtain ⟨h1, h2⟩ := ck_kd_s f1 f4 hq
      rw [Bool.and_eq_true] at h
      obtain ⟨h0, h⟩ := h
      simp only [Bool.and_eq_true, beq_iff_eq, decide_eq_true_eq] at h0
      obtain ⟨h3, h4, h5⟩ := h0
      have hi1 := he.1
      have hi2 := he.2.1
      have hg := gm_p_iald (X := X) (LX := LX) (d := d) (L := L) (st := st) (n := n) (K := K) (R := R) (M := M) (e0 := i) hat h1 (by rw [h2]; exact h3) (by rw [gm_ir_w hi, h2]; omega)
      rw [gm_ir_w hi] at hg
      cases hf : ck_fi F r e.1 e.2.1 with
      | some a =>
        rw [hf] at h
        have h6 := (ck_fi_s f4 hf).2 i hi1 hi2
        refine gm_sz hg (hk _ _ _ _ _ _ _ _ _ _ _ _ h ⟨f1, f2, ck_pi h6.1 h6.2 ?_ hst, f4, f5⟩)
        split
        · rename_i e9
          have := ck_sg_s he e9
          subst this
          exact ck_gr0 _
        · exact trivial
      | none =>
        rw [hf] at h
        dsimp only at h
        cases ht : gm_tyr O r e.1 e.2.1 with
        | none =>
          rw [ht] at h
          exact gm_sz hg (ck_nv (hk _ _ _ _ _ _ _ _ _ _ _ _ h ⟨f1, f2, ck_pi (ck_w_ir _) (ck_top_s _) (s := none) trivial hst, f4, f5⟩))
        | some t =>
          rw [ht] at h
          dsimp only at h
          have h6 := (gm_tyr_s f1 ht).2 i hi1 hi2
          split at h
          · rename_i e9
            have e8 := ck_sg_s he e9
            have e7 : e.2.1 = e.1 := by
              unfold ck_sg at e9
              exact (of_decide_eq_true e9).symm
            rw [e7] at ht
            refine gm_sz hg (hk _ _ _ _ _ _ _ _ _ _ _ _ h ⟨f1, f2, ck_pi (a := (t.1, t.2, [])) h6.1 ⟨h6.2.1, h6.2.2, fun _ h => nomatch h⟩ (s := some (.inr (.inl (r, e.1, 0)))) ?_ hst, ck_tf_s f1 f4 ht, f5⟩)
            subst e8
            exact ck_gr0 _
          · exact gm_sz hg (hk _ _ _ _ _ _ _ _ _ _ _ _ h ⟨f1, f2, ck_pi (a := (t.1, t.2, [])) h6.1 ⟨h6.2.1, h6.2.2, fun _ h => nomatch h⟩ (s := none) trivial hst, f4, f5⟩)
  · obtain ⟨f1, f2, f3, f4, f5⟩ := hS
    obtain ⟨i, st, rfl, hi, he, -, hst⟩ := ck_qi f3
    obtain ⟨st, e0, hst'⟩ := ck_qo hst
    subst e0
    replace hst := hst'
    unfold ck_j at h
    dsimp only at h
    cases hl9 : lx with
    | none => rw [hl9] at h; cases h
    | some l =>
    have hl8 := hlx l hl9
    subst hl8
    rw [hl9] at h
    dsimp only at h
    rw [Bool.and_eq_true] at h
    obtain ⟨h0, h⟩ := h
    simp only [Bool.and_eq_true, beq_iff_eq, decide_eq_true_eq] at h0
    obtain ⟨h3, h4, h5⟩ := h0
    subst h3
    have hi1 := he.1
    have hi2 := he.2.1
    have hg := gm_p_sald (X := X) (LX := l) (d := d) (L := L) (st := st) (n := n) (K := K) (R := R) (M := M) (e0 := i) hat (by rw [gm_ir_w hi]; omega)
    rw [gm_ir_w hi] at hg
    cases hf : XF.find? fun q => decide (q.1 ≤ e.1) && decide (e.2.1 ≤ q.2.1) with
    | some q =>
      rw [hf] at h
      have h6 := List.find?_some hf
      simp only [Bool.and_eq_true, decide_eq_true_eq] at h6
      have h7 := hX q (List.mem_of_find?_eq_some hf) i (by omega) (by omega)
      exact gm_sz hg (hk _ _ _ _ _ _ _ _ _ _ _ _ h ⟨f1, f2, ck_pi h7.1 h7.2 (s := none) trivial hst, f4, f5⟩)
    | none =>
      rw [hf] at h
      exact gm_sz hg (ck_nv (hk _ _ _ _ _ _ _ _ _ _ _ _ h ⟨f1, f2, ck_pi (ck_w_ir _) (ck_top_s _) (s := none) trivial hst, f4, f5⟩))
theorem ck_j_bald   (hat : gm_at mi pc = some (.baload)) (hS : ck_St O σ W n0 K0 R0 M0 AL AS F L st n K R M) (hk : ck_On O X LX σ mi d W n0 K0 R0 M0 (ck_Q O σ0 W n0 K0 R0 M0 outs) k) (h : ck_j O lx XF E mi d n0 W outs bc bs pc AL AS n F k (.baload) = true) : gm_Wp X LX d bc bs mi pc L st n K R M (ck_Q O σ0 W n0 K0 R0 M0 outs) := by
  rcases AS with _ | ⟨⟨e | e | r | c, t⟩, _ | ⟨⟨a | a | r | c, s⟩, AS⟩⟩ <;> (try exact absurd (show false = true from h) Bool.false_ne_true)
  · obtain ⟨f1, f2, f3, f4, f5⟩ := hS
    obtain ⟨i, st, rfl, hi, he, -, hst⟩ := ck_qi f3
    obtain ⟨st, e0, hst'⟩ := ck_qr hst
    subst e0
    replace hst := hst'
    unfold ck_j at h
    dsimp only at h
    cases hq : ck_kd O F r with
    | none => rw [hq] at h; cases h
    | some q =>
      rw [hq] at h
      dsimp only at h
      obtain ⟨h1, h2⟩ := ck_kd_s f1 f4 hq
      rw [Bool.and_eq_true] at h
      obtain ⟨h0, h⟩ := h
      simp only [Bool.and_eq_true, beq_iff_eq, decide_eq_true_eq] at h0
      obtain ⟨h3, h4, h5⟩ := h0
      have hi1 := he.1
      have hi2 := he.2.1
      have hg := gm_p_bald (X := X) (LX := LX) (d := d) (L := L) (st := st) (n := n) (K := K) (R := R) (M := M) (e0 := i) hat h1 (by rw [h2]; exact h3) (by rw [gm_ir_w hi, h2]; omega)
      rw [gm_ir_w hi] at hg
      cases hf : ck_fi F r e.1 e.2.1 with
      | some a =>
        rw [hf] at h
        have h6 := (ck_fi_s f4 hf).2 i hi1 hi2
        refine gm_sz hg (hk _ _ _ _ _ _ _ _ _ _ _ _ h ⟨f1, f2, ck_pi h6.1 h6.2 ?_ hst, f4, f5⟩)
        split
        · rename_i e9
          have := ck_sg_s he e9
          subst this
          exact ck_gr0 _
        · exact trivial
      | none =>
        rw [hf] at h
        dsimp only at h
        cases ht : gm_tyr O r e.1 e.2.1 with
        | none =>
          rw [ht] at h
          exact gm_sz hg (ck_nv (hk _ _ _ _ _ _ _ _ _ _ _ _ h ⟨f1, f2, ck_pi (ck_w_ir _) (ck_top_s _) (s := none) trivial hst, f4, f5⟩))
        | some t =>
          rw [ht] at h
          dsimp only at h
          have h6 := (gm_tyr_s f1 ht).2 i hi1 hi2
          split at h
          · rename_i e9
            have e8 := ck_sg_s he e9
            have e7 : e.2.1 = e.1 := by
              unfold ck_sg at e9
              exact (of_decide_eq_true e9).symm
            rw [e7] at ht
            refine gm_sz hg (hk _ _ _ _ _ _ _ _ _ _ _ _ h ⟨f1, f2, ck_pi (a := (t.1, t.2, [])) h6.1 ⟨h6.2.1, h6.2.2, fun _ h => nomatch h⟩ (s := some (.inr (.inl (r, e.1, 0)))) ?_ hst, ck_tf_s f1 f4 ht, f5⟩)
            subst e8
            exact ck_gr0 _
          · exact gm_sz hg (hk _ _ _ _ _ _ _ _ _ _ _ _ h ⟨f1, f2, ck_pi (a := (t.1, t.2, [])) h6.1 ⟨h6.2.1, h6.2.2, fun _ h => nomatch h⟩ (s := none) trivial hst, f4, f5⟩)
theorem ck_j_lald   (hat : gm_at mi pc = some (.laload)) (hS : ck_St O σ W n0 K0 R0 M0 AL AS F L st n K R M) (hk : ck_On O X LX σ mi d W n0 K0 R0 M0 (ck_Q O σ0 W n0 K0 R0 M0 outs) k) (h : ck_j O lx XF E mi d n0 W outs bc bs pc AL AS n F k (.laload) = true) : gm_Wp X LX d bc bs mi pc L st n K R M (ck_Q O σ0 W n0 K0 R0 M0 outs) := by
  rcases AS with _ | ⟨⟨e | e | r | c, t⟩, _ | ⟨⟨a | a | r | c, s⟩, AS⟩⟩ <;> (try exact absurd (show false = true from h) Bool.false_ne_true)
  · obtain ⟨f1, f2, f3, f4, f5⟩ := hS
    obtain ⟨i, st, rfl, hi, he, -, hst⟩ := ck_qi f3
    obtain ⟨st, e0, hst'⟩ := ck_qr hst
    subst e0
    replace hst := hst'
    unfold ck_j at h
    dsimp only at h
    cases hq : ck_kd O F r with
    | none => rw [hq] at h; cases h
    | some q =>
      rw [hq] at h
      dsimp only at h
      obtain ⟨h1, h2⟩ := ck_kd_s f1 f4 hq
      rw [Bool.and_eq_true] at h
      obtain ⟨h0, h⟩ := h
      simp only [Bool.and_eq_true, beq_iff_eq, decide_eq_true_eq] at h0
      obtain ⟨h3, h4, h5⟩ := h0
      have hi1 := he.1
      have hi2 := he.2.1
      have hg := gm_p_lald (X := X) (LX := LX) (d := d) (L := L) (st := st) (n := n) (K := K) (R := R) (M := M) (e0 := i) hat h1 (by rw [h2]; exact h3) (by rw [gm_ir_w hi, h2]; omega)
      rw [gm_ir_w hi] at hg
      cases hf : ck_fi F r e.1 e.2.1 with
      | some a =>
        rw [hf] at h
        have h6 := (ck_fi_s f4 hf).2 i hi1 hi2
        exact gm_sz hg (hk _ _ _ _ _ _ _ _ _ _ _ _ h ⟨f1, f2, ck_pl (ck_r6_i h6.1) h6.2 hst, f4, f5⟩)
      | none =>
        rw [hf] at h
        exact gm_sz hg (ck_nv6 (hk _ _ _ _ _ _ _ _ _ _ _ _ h ⟨f1, f2, ck_pl (ck_r6_w _) (ck_tp6_s (ck_r6_w _)) hst, f4, f5⟩))
theorem ck_j_aald   (hat : gm_at mi pc = some (.aaload)) (hS : ck_St O σ W n0 K0 R0 M0 AL AS F L st n K R M) (hk : ck_On O X LX σ mi d W n0 K0 R0 M0 (ck_Q O σ0 W n0 K0 R0 M0 outs) k) (h : ck_j O lx XF E mi d n0 W outs bc bs pc AL AS n F k (.aaload) = true) : gm_Wp X LX d bc bs mi pc L st n K R M (ck_Q O σ0 W n0 K0 R0 M0 outs) := by
  rcases AS with _ | ⟨⟨e | e | r | c, t⟩, _ | ⟨⟨a | a | r | c, s⟩, AS⟩⟩ <;> (try exact absurd (show false = true from h) Bool.false_ne_true)
  obtain ⟨f1, f2, f3, f4, f5⟩ := hS
  obtain ⟨i, st, rfl, hi, he, -, hst⟩ := ck_qi f3
  obtain ⟨st, e0, hst'⟩ := ck_qr hst
  subst e0
  replace hst := hst'
  unfold ck_j at h
  dsimp only at h
  cases hq : ck_kd O F r with
  | none => rw [hq] at h; cases h
  | some q =>
    rw [hq] at h
    dsimp only at h
    obtain ⟨h1, h2⟩ := ck_kd_s f1 f4 hq
    rw [Bool.and_eq_true] at h
    obtain ⟨h0, h⟩ := h
    simp only [Bool.and_eq_true, beq_iff_eq, decide_eq_true_eq] at h0
    obtain ⟨h3, h4, h5, h6⟩ := h0
    have he1 := he.1
    have he2 := he.2.1
    have hg := gm_p_aald (X := X) (LX := LX) (d := d) (L := L) (st := st) (n := n) (K := K) (R := R) (M := M) (e0 := i) hat h1 (by rw [h2]; exact h3) (by rw [gm_ir_w hi, h2]; omega)
    rw [gm_ir_w hi] at hg
    have h7 := List.all_eq_true.mp h (i - e.1).toNat (List.mem_range.mpr (by omega))
    have h8 : e.1 + ((i - e.1).toNat : Int) = i := by omega
    rw [h8] at h7
    cases hf : ck_fR O F r i with
    | some v =>
      rw [hf] at h7
      rw [(ck_fR_s f1 f4 hf).2] at hg
      exact gm_sz hg (hk _ _ _ _ _ _ _ _ _ _ _ _ h7 ⟨f1, f2, ck_pr hst, f4, f5⟩)
    | none =>
      rw [hf] at h7
      cases h7
theorem ck_j_iast   (hat : gm_at mi pc = some (.iastore)) (hS : ck_St O σ W n0 K0 R0 M0 AL AS F L st n K R M) (hk : ck_On O X LX σ mi d W n0 K0 R0 M0 (ck_Q O σ0 W n0 K0 R0 M0 outs) k) (h : ck_j O lx XF E mi d n0 W outs bc bs pc AL AS n F k (.iastore) = true) : gm_Wp X LX d bc bs mi pc L st n K R M (ck_Q O σ0 W n0 K0 R0 M0 outs) := by
  rcases AS with _ | ⟨⟨a | a | v | c, t⟩, _ | ⟨⟨e | e | r | c, s⟩, _ | ⟨⟨b | b | r | c, s'⟩, AS⟩⟩⟩ <;> (try exact absurd (show false = true from h) Bool.false_ne_true)
  · obtain ⟨f1, f2, f3, f4, f5⟩ := hS
    obtain ⟨x, st, rfl, hx, ha, -, hst⟩ := ck_qi f3
    obtain ⟨i, st, rfl, hi, he, -, hst⟩ := ck_qi hst
    obtain ⟨st, e0, hst'⟩ := ck_qr hst
    subst e0
    replace hst := hst'
    unfold ck_j at h
    dsimp only at h
    cases hq : ck_kd O F r with
    | none => rw [hq] at h; cases h
    | some q =>
      rw [hq] at h
      dsimp only at h
      obtain ⟨h1, h2⟩ := ck_kd_s f1 f4 hq
      rw [Bool.and_eq_true] at h
      obtain ⟨h0, h⟩ := h
      simp only [Bool.and_eq_true, beq_iff_eq, decide_eq_true_eq] at h0
      obtain ⟨h3, h4, h5, h6, ht⟩ := h0
      have hi1 := he.1
      have hi2 := he.2.1
      have hg := gm_p_iast (X := X) (LX := LX) (d := d) (L := L) (st := st) (n := n) (K := K) (R := R) (M := M) (e0 := i) (x := x) hat h1 (by rw [h2]; exact h3) (by rw [gm_ir_w hi, h2]; omega)
      rw [gm_ir_w hi] at hg
      exact gm_sz hg (hk _ _ _ _ _ _ _ _ _ _ _ _ h ⟨gm_Fx_M f1 ht hi1 hi2 ha.1 ha.2.1, f2, ck_sh_s hst, ck_upT_s f4 h1.2 hi1 hi2 hx ha, ck_fr_M f5 h6 hi1 hi2⟩)
theorem ck_j_bast   (hat : gm_at mi pc = some (.bastore)) (hS : ck_St O σ W n0 K0 R0 M0 AL AS F L st n K R M) (hk : ck_On O X LX σ mi d W n0 K0 R0 M0 (ck_Q O σ0 W n0 K0 R0 M0 outs) k) (h : ck_j O lx XF E mi d n0 W outs bc bs pc AL AS n F k (.bastore) = true) : gm_Wp X LX d bc bs mi pc L st n K R M (ck_Q O σ0 W n0 K0 R0 M0 outs) := by
  rcases AS with _ | ⟨⟨a | a | v | c, t⟩, _ | ⟨⟨e | e | r | c, s⟩, _ | ⟨⟨b | b | r | c, s'⟩, AS⟩⟩⟩ <;> (try exact absurd (show false = true from h) Bool.false_ne_true)
  · obtain ⟨f1, f2, f3, f4, f5⟩ := hS
    obtain ⟨x, st, rfl, hx, ha, -, hst⟩ := ck_qi f3
    obtain ⟨i, st, rfl, hi, he, -, hst⟩ := ck_qi hst
    obtain ⟨st, e0, hst'⟩ := ck_qr hst
    subst e0
    replace hst := hst'
    unfold ck_j at h
    dsimp only at h
    cases hq : ck_kd O F r with
    | none => rw [hq] at h; cases h
    | some q =>
      rw [hq] at h
      dsimp only at h
      obtain ⟨h1, h2⟩ := ck_kd_s f1 f4 hq
      rw [Bool.and_eq_true] at h
      obtain ⟨h0, h⟩ := h
      simp only [Bool.and_eq_true, beq_iff_eq, decide_eq_true_eq] at h0
      obtain ⟨h3, h4, h5, h6, ht⟩ := h0
      have hi1 := he.1
      have hi2 := he.2.1
      have hg := gm_p_bast (X := X) (LX := LX) (d := d) (L := L) (st := st) (n := n) (K := K) (R := R) (M := M) (e0 := i) (x := x) hat h1 (by rw [h2]; exact h3) (by rw [gm_ir_w hi, h2]; omega)
      rw [gm_ir_w hi] at hg
      have hb0 : -128 ≤ gm_wb x ∧ gm_wb x ≤ 127 := by unfold gm_wb; omega
      have hFb : gm_Fx O n K R (gm_uM M r i (gm_wb x)) := by
        split at ht
        · rename_i e9
          have h9 : gm_wb x = x := by
            have := ha.1
            have := ha.2.1
            unfold gm_wb
            omega
          rw [h9]
          exact gm_Fx_M f1 ht hi1 hi2 ha.1 ha.2.1
        · exact gm_Fx_M f1 ht hi1 hi2 hb0.1 hb0.2
      refine gm_sz hg (hk _ _ _ _ _ _ _ _ _ _ _ _ h ⟨hFb, f2, ck_sh_s hst, ck_upT_s f4 h1.2 hi1 hi2 (by unfold gm_ir; omega) ?_, ck_fr_M f5 h6 hi1 hi2⟩)
      split
      · rename_i e9
        have h9 : gm_wb x = x := by
          have := ha.1
          have := ha.2.1
          unfold gm_wb
          omega
        rw [h9]
        exact ha
      · exact ⟨hb0.1, hb0.2, ck_gt_none⟩
theorem ck_j_last   (hat : gm_at mi pc = some (.lastore)) (hS : ck_St O σ W n0 K0 R0 M0 AL AS F L st n K R M) (hk : ck_On O X LX σ mi d W n0 K0 R0 M0 (ck_Q O σ0 W n0 K0 R0 M0 outs) k) (h : ck_j O lx XF E mi d n0 W outs bc bs pc AL AS n F k (.lastore) = true) : gm_Wp X LX d bc bs mi pc L st n K R M (ck_Q O σ0 W n0 K0 R0 M0 outs) := by
  rcases AS with _ | ⟨⟨a | a | v | c, t⟩, _ | ⟨⟨e | e | r | c, s⟩, _ | ⟨⟨b | b | r | c, s'⟩, AS⟩⟩⟩ <;> (try exact absurd (show false = true from h) Bool.false_ne_true)
  · obtain ⟨f1, f2, f3, f4, f5⟩ := hS
    obtain ⟨x, st, rfl, hx, ha, hst⟩ := ck_ql f3
    obtain ⟨i, st, rfl, hi, he, -, hst⟩ := ck_qi hst
    obtain ⟨st, e0, hst'⟩ := ck_qr hst
    subst e0
    replace hst := hst'
    unfold ck_j at h
    dsimp only at h
    cases hq : ck_kd O F r with
    | none => rw [hq] at h; cases h
    | some q =>
      rw [hq] at h
      dsimp only at h
      obtain ⟨h1, h2⟩ := ck_kd_s f1 f4 hq
      rw [Bool.and_eq_true] at h
      obtain ⟨h0, h⟩ := h
      simp only [Bool.and_eq_true, beq_iff_eq, decide_eq_true_eq] at h0
      obtain ⟨h3, h4, h5, h6, ht⟩ := h0
      have hi1 := he.1
      have hi2 := he.2.1
      have hg := gm_p_last (X := X) (LX := LX) (d := d) (L := L) (st := st) (n := n) (K := K) (R := R) (M := M) (e0 := i) (x := x) hat h1 (by rw [h2]; exact h3) (by rw [gm_ir_w hi, h2]; omega)
      rw [gm_ir_w hi] at hg
      split at h
      · rename_i e9
        exact gm_sz hg (hk _ _ _ _ _ _ _ _ _ _ _ _ h ⟨gm_Fx_E f1 (by rw [Bool.and_eq_true]; exact ht), f2, ck_sh_s hst, ck_up_s f4 h1.2 hi1 hi2 (ck_in_s ha e9) ha, ck_fr_M f5 h6 hi1 hi2⟩)
      · refine gm_sz hg (hk _ _ _ _ _ _ _ _ _ _ _ _ h ⟨gm_Fx_E f1 (by rw [Bool.and_eq_true]; exact ht), f2, ck_sh_s hst, ⟨f4.1, f4.2.1, fun p hp => ?_⟩, ck_fr_M f5 h6 hi1 hi2⟩)
        obtain ⟨h7, h8⟩ := List.mem_filter.mp hp
        have h9 := f4.2.2 p h7
        refine ⟨h9.1, fun j a1 a2 => ?_⟩
        unfold gm_uM
        rw [if_neg (by rintro ⟨rfl, -⟩; simp at h8)]
        exact h9.2 j a1 a2
theorem ck_j_aast   (hat : gm_at mi pc = some (.aastore)) (hS : ck_St O σ W n0 K0 R0 M0 AL AS F L st n K R M) (hk : ck_On O X LX σ mi d W n0 K0 R0 M0 (ck_Q O σ0 W n0 K0 R0 M0 outs) k) (h : ck_j O lx XF E mi d n0 W outs bc bs pc AL AS n F k (.aastore) = true) : gm_Wp X LX d bc bs mi pc L st n K R M (ck_Q O σ0 W n0 K0 R0 M0 outs) := by
  rcases AS with _ | ⟨⟨a | a | v | c, t⟩, _ | ⟨⟨e | e | r | c, s⟩, _ | ⟨⟨b | b | r | c, s'⟩, AS⟩⟩⟩ <;> (try exact absurd (show false = true from h) Bool.false_ne_true)
  · obtain ⟨f1, f2, f3, f4, f5⟩ := hS
    obtain ⟨st, rfl, hst⟩ := ck_qr f3
    obtain ⟨i, st, rfl, hi, he, -, hst⟩ := ck_qi hst
    obtain ⟨st, e0, hst'⟩ := ck_qr hst
    subst e0
    replace hst := hst'
    unfold ck_j at h
    dsimp only at h
    split at h
    · rename_i q p hq hp
      obtain ⟨h1, h2⟩ := ck_kd_s f1 f4 hq
      obtain ⟨g1, g2⟩ := ck_kd_s f1 f4 hp
      rw [Bool.and_eq_true] at h
      obtain ⟨h0, h⟩ := h
      simp only [Bool.and_eq_true, beq_iff_eq, decide_eq_true_eq, Option.isNone_iff_eq_none] at h0
      obtain ⟨h3, h4, h5, h6, h7, h8, h9⟩ := h0
      have hi1 := ck_sg_s he h5
      have hg := gm_p_aast (X := X) (LX := LX) (d := d) (L := L) (st := st) (n := n) (K := K) (R := R) (M := M) (e0 := i) (r := v) (ci := 1) hat h1 (by rw [h2]; exact h3) (by rw [gm_ir_w hi, h2]; omega) g1 (by rw [g2]; exact h4) (by decide) gm_cn1
      rw [gm_ir_w hi] at hg
      rw [hi1] at hg ⊢
      exact gm_sz hg (hk _ _ _ _ _ _ _ _ _ _ _ _ h ⟨gm_Fx_R f1 h8, f2, hst, ck_upR_s f4 h1.2, ck_fr_R f5 h9⟩)
    · cases h
theorem ck_j_alen  (hlx : ∀ l, lx = some l → l = LX) (hat : gm_at mi pc = some (.arraylength)) (hS : ck_St O σ W n0 K0 R0 M0 AL AS F L st n K R M) (hk : ck_On O X LX σ mi d W n0 K0 R0 M0 (ck_Q O σ0 W n0 K0 R0 M0 outs) k) (h : ck_j O lx XF E mi d n0 W outs bc bs pc AL AS n F k (.arraylength) = true) : gm_Wp X LX d bc bs mi pc L st n K R M (ck_Q O σ0 W n0 K0 R0 M0 outs) := by
  rcases AS with _ | ⟨⟨a | a | r | c, s⟩, AS⟩ <;> (try exact absurd (show false = true from h) Bool.false_ne_true)
  · obtain ⟨f1, f2, f3, f4, f5⟩ := hS
    obtain ⟨st, rfl, hst⟩ := ck_qr f3
    unfold ck_j at h
    dsimp only at h
    cases hq : ck_kd O F r with
    | none => rw [hq] at h; cases h
    | some q =>
      rw [hq] at h
      dsimp only at h
      obtain ⟨h1, h2⟩ := ck_kd_s f1 f4 hq
      simp only [Bool.and_eq_true, decide_eq_true_eq] at h
      obtain ⟨⟨h3, h4⟩, h⟩ := h
      have hg := gm_p_alen (X := X) (LX := LX) (d := d) (L := L) (st := st) (n := n) (K := K) (R := R) (M := M) hat h1 (by rw [h2]; exact h3)
      rw [h2] at hg
      exact gm_sz hg (hk _ _ _ _ _ _ _ _ _ _ _ _ h ⟨f1, f2, ck_pi (ck_cvk_i h4) (ck_one_s _) (s := none) trivial hst, f4, f5⟩)
  · obtain ⟨f1, f2, f3, f4, f5⟩ := hS
    obtain ⟨st, rfl, hst⟩ := ck_qo f3
    unfold ck_j at h
    dsimp only at h
    cases hl9 : lx with
    | none => rw [hl9] at h; cases h
    | some l =>
    have hl8 := hlx l hl9
    subst hl8
    rw [hl9] at h
    dsimp only at h
    simp only [Bool.and_eq_true, beq_iff_eq] at h
    obtain ⟨⟨h3, h4⟩, h⟩ := h
    subst h3
    have hg := gm_p_slen (X := X) (LX := l) (d := d) (L := L) (st := st) (n := n) (K := K) (R := R) (M := M) hat
    have h9 : ck_gs σ L M ((.inl (ck_one (l : Int)), none) :: AS) (gm_vi (l : Int) :: st) := ck_pi (ck_cvk_i h4) (ck_one_s (l : Int)) (s := none) trivial hst
    exact gm_sz hg (hk bc bs (pc + 1) AL _ n F L _ K R M h ⟨f1, f2, h9, f4, f5⟩)
theorem ck_j_new {ix : Nat} (hs : ∀ s, s < 100 → σ s = σ0 s) (hat : gm_at mi pc = some (.new ix)) (hS : ck_St O σ W n0 K0 R0 M0 AL AS F L st n K R M) (hk : ck_On O X LX σ mi d W n0 K0 R0 M0 (ck_Q O σ0 W n0 K0 R0 M0 outs) k) (h : ck_j O lx XF E mi d n0 W outs bc bs pc AL AS n F k (.new ix) = true) : gm_Wp X LX d bc bs mi pc L st n K R M (ck_Q O σ0 W n0 K0 R0 M0 outs) := by
  obtain ⟨f1, f2, f3, f4, f5⟩ := hS
  unfold ck_j at h
  dsimp only at h
  cases hn : gm_new (gm_ow mi) ix with
  | some ci =>
    rw [hn] at h
    dsimp only at h
    simp only [Bool.and_eq_true, decide_eq_true_eq] at h
    obtain ⟨⟨⟨h1, h2⟩, h9⟩, h⟩ := h
    refine gm_sp (gm_p_new h9 hat hn) h1 h2 (hk _ _ _ _ _ _ _ _ _ _ _ _ h ⟨gm_Fx_n f1, f2, ?_, ck_new_s f4 ck_nlr, ck_fr_n f5⟩)
    exact ck_pr (ck_sh_s f3)
  | none =>
    rw [hn] at h
    dsimp only at h
    cases hx : gm_isx mi pc ix with
    | none => rw [hx] at h; cases h
    | some x =>
      rw [hx] at h
      dsimp only at h
      simp only [Bool.and_eq_true, decide_eq_true_eq, List.isEmpty_iff] at h
      obtain ⟨⟨hh, h1, h2, h3, h4⟩, h⟩ := h
      obtain ⟨ic, is, id, lw, a1, a2, a3, a4, a5, a6⟩ := gm_isx_of hx
      exact gm_throw hh hat a1 a2 a3 a4 a5 a6 (ck_sum8_s f3 h2) h1 h3 h4 (ck_end_s (how := .inl x) hs f1 f4 f5 rfl h)
theorem ck_j_newa {at0 : ArrayType}  (hat : gm_at mi pc = some (.newarray at0)) (hS : ck_St O σ W n0 K0 R0 M0 AL AS F L st n K R M) (hk : ck_On O X LX σ mi d W n0 K0 R0 M0 (ck_Q O σ0 W n0 K0 R0 M0 outs) k) (h : ck_j O lx XF E mi d n0 W outs bc bs pc AL AS n F k (.newarray at0) = true) : gm_Wp X LX d bc bs mi pc L st n K R M (ck_Q O σ0 W n0 K0 R0 M0 outs) := by
  unfold ck_j at h
  dsimp only at h
  split at h
  · rename_i e s AS kd hkd
    obtain ⟨f1, f2, f3, f4, f5⟩ := hS
    obtain ⟨x, st, rfl, hx, ha, -, hst⟩ := ck_qi f3
    simp only [Bool.and_eq_true, decide_eq_true_eq] at h
    obtain ⟨⟨h1, h2, h3, h4, h5, h9⟩, h⟩ := h
    have h6 := ck_sg_s ha h1
    subst h6
    have hkd2 : (at0 = .int ∧ kd = 0) ∨ (at0 = .byte ∧ kd = 1) ∨ (at0 = .long ∧ kd = 2) := by
      cases at0 <;> simp at hkd <;> subst hkd <;> simp
    have hg := gm_p_newa (X := X) (LX := LX) (d := d) (L := L) (st := st) (n := n) (K := K) (R := R) (M := M) (e0 := e.1) h9 hat hkd2 (by rw [gm_ir_w hx]; exact ⟨h2, h3⟩)
    rw [gm_ir_w hx] at hg
    exact gm_sp hg h4 h5 (hk _ _ _ _ _ _ _ _ _ _ _ _ h ⟨gm_Fx_n f1, f2, ck_pr (ck_sh_s hst), ck_new_s f4 ck_nl1, ck_fr_n f5⟩)
  · cases h
theorem ck_j_anew {ix : Nat}  (hat : gm_at mi pc = some (.anewarray ix)) (hS : ck_St O σ W n0 K0 R0 M0 AL AS F L st n K R M) (hk : ck_On O X LX σ mi d W n0 K0 R0 M0 (ck_Q O σ0 W n0 K0 R0 M0 outs) k) (h : ck_j O lx XF E mi d n0 W outs bc bs pc AL AS n F k (.anewarray ix) = true) : gm_Wp X LX d bc bs mi pc L st n K R M (ck_Q O σ0 W n0 K0 R0 M0 outs) := by
  rcases AS with _ | ⟨⟨a | a | r | c, s⟩, AS⟩ <;> (try exact absurd (show false = true from h) Bool.false_ne_true)
  obtain ⟨f1, f2, f3, f4, f5⟩ := hS
  obtain ⟨x, st, rfl, hx, ha, -, hst⟩ := ck_qi f3
  have h : ((decide (gm_new (gm_ow mi) ix = some 1) && (ck_sg a && (decide (0 ≤ a.1) && (decide (a.1 < 60000000) && (decide (1 ≤ bc) && (decide (a.1.toNat ≤ bs) && decide (n + 1 < 100000))))))) && k (bc - 1) (bs - a.1.toNat) (pc + 3) AL ((.inr (.inr (.inl (n + 1))), none) :: ck_sh AS) (n + 1) ((n + 1, 3, a.1.toNat) :: F.1, F.2.1, F.2.2)) = true := h
  simp only [Bool.and_eq_true, decide_eq_true_eq] at h
  obtain ⟨⟨h0, h1, h2, h3, h4, h5, h9⟩, h⟩ := h
  have h6 := ck_sg_s ha h1
  subst h6
  have hg := gm_p_anew (X := X) (LX := LX) (d := d) (L := L) (st := st) (n := n) (K := K) (R := R) (M := M) (e0 := a.1) h9 hat h0 gm_cn1 (by rw [gm_ir_w hx]; exact ⟨h2, h3⟩)
  rw [gm_ir_w hx] at hg
  exact gm_sp hg h4 h5 (hk _ _ _ _ _ _ _ _ _ _ _ _ h ⟨gm_Fx_n f1, f2, ck_pr (ck_sh_s hst), ck_new_s (l := []) f4 ck_nl0, ck_fr_n f5⟩)
theorem ck_j_ldc {ix : Nat}  (hat : gm_at mi pc = some (.ldc ix)) (hS : ck_St O σ W n0 K0 R0 M0 AL AS F L st n K R M) (hk : ck_On O X LX σ mi d W n0 K0 R0 M0 (ck_Q O σ0 W n0 K0 R0 M0 outs) k) (h : ck_j O lx XF E mi d n0 W outs bc bs pc AL AS n F k (.ldc ix) = true) : gm_Wp X LX d bc bs mi pc L st n K R M (ck_Q O σ0 W n0 K0 R0 M0 outs) := by
  obtain ⟨f1, f2, f3, f4, f5⟩ := hS
  unfold ck_j at h
  dsimp only at h
  cases hv : gm_ild (gm_ow mi) ix with
  | some q =>
    rw [hv] at h
    obtain ⟨q1, q2⟩ := q
    simp only [Bool.and_eq_true, beq_iff_eq] at h
    obtain ⟨⟨h1, h2⟩, h⟩ := h
    subst h1
    exact gm_sz (gm_p_ldci hat (.inl rfl) hv) (hk _ _ _ _ _ _ _ _ _ _ _ _ h ⟨f1, f2, ck_pi (ck_cvk_i h2) (ck_one_s _) (s := none) trivial f3, f4, f5⟩)
  | none =>
    rw [hv] at h
    dsimp only at h
    cases hw : gm_sld (gm_ow mi) ix with
    | some id =>
      rw [hw] at h
      exact gm_sz (gm_p_ldcs hat (.inl rfl) hw) (hk _ _ _ _ _ _ _ _ _ _ _ _ h ⟨f1, f2, ck_po f3, f4, f5⟩)
    | none => rw [hw] at h; cases h
theorem ck_j_ldc_w {ix : Nat}  (hat : gm_at mi pc = some (.ldc_w ix)) (hS : ck_St O σ W n0 K0 R0 M0 AL AS F L st n K R M) (hk : ck_On O X LX σ mi d W n0 K0 R0 M0 (ck_Q O σ0 W n0 K0 R0 M0 outs) k) (h : ck_j O lx XF E mi d n0 W outs bc bs pc AL AS n F k (.ldc_w ix) = true) : gm_Wp X LX d bc bs mi pc L st n K R M (ck_Q O σ0 W n0 K0 R0 M0 outs) := by
  obtain ⟨f1, f2, f3, f4, f5⟩ := hS
  unfold ck_j at h
  dsimp only at h
  cases hv : gm_ild (gm_ow mi) ix with
  | some q =>
    rw [hv] at h
    obtain ⟨q1, q2⟩ := q
    simp only [Bool.and_eq_true, beq_iff_eq] at h
    obtain ⟨⟨h1, h2⟩, h⟩ := h
    subst h1
    exact gm_sz (gm_p_ldci hat (.inr rfl) hv) (hk _ _ _ _ _ _ _ _ _ _ _ _ h ⟨f1, f2, ck_pi (ck_cvk_i h2) (ck_one_s _) (s := none) trivial f3, f4, f5⟩)
  | none =>
    rw [hv] at h
    dsimp only at h
    cases hw : gm_sld (gm_ow mi) ix with
    | some id =>
      rw [hw] at h
      exact gm_sz (gm_p_ldcs hat (.inr rfl) hw) (hk _ _ _ _ _ _ _ _ _ _ _ _ h ⟨f1, f2, ck_po f3, f4, f5⟩)
    | none => rw [hw] at h; cases h
theorem ck_j_ldcl {ix : Nat}  (hat : gm_at mi pc = some (.ldc2_w ix)) (hS : ck_St O σ W n0 K0 R0 M0 AL AS F L st n K R M) (hk : ck_On O X LX σ mi d W n0 K0 R0 M0 (ck_Q O σ0 W n0 K0 R0 M0 outs) k) (h : ck_j O lx XF E mi d n0 W outs bc bs pc AL AS n F k (.ldc2_w ix) = true) : gm_Wp X LX d bc bs mi pc L st n K R M (ck_Q O σ0 W n0 K0 R0 M0 outs) := by
  obtain ⟨f1, f2, f3, f4, f5⟩ := hS
  unfold ck_j at h
  dsimp only at h
  cases hv : gm_ild (gm_ow mi) ix with
  | some q =>
    rw [hv] at h
    obtain ⟨q1, q2⟩ := q
    simp only [Bool.and_eq_true, beq_iff_eq] at h
    obtain ⟨⟨h1, h2⟩, h⟩ := h
    subst h1
    exact gm_sz (gm_p_ldcl hat hv) (hk _ _ _ _ _ _ _ _ _ _ _ _ h ⟨f1, f2, ck_pl (ck_cvk_l h2) (ck_one_s _) f3, f4, f5⟩)
  | none => rw [hv] at h; cases h
theorem ck_j_stat {ix : Nat} (hE : ck_nmu O ∧ ck_OkE O X LX E) (hs : ∀ s, s < 100 → σ s = σ0 s) (hat : gm_at mi pc = some (.invokestatic ix)) (hS : ck_St O σ W n0 K0 R0 M0 AL AS F L st n K R M) (hk : ck_On O X LX σ mi d W n0 K0 R0 M0 (ck_Q O σ0 W n0 K0 R0 M0 outs) k) (h : ck_j O lx XF E mi d n0 W outs bc bs pc AL AS n F k (.invokestatic ix) = true) : gm_Wp X LX d bc bs mi pc L st n K R M (ck_Q O σ0 W n0 K0 R0 M0 outs) := by
  unfold ck_j at h
  dsimp only at h
  cases hc : gm_cal (gm_ow mi) ix with
  | none =>
    rw [hc] at h
    dsimp only at h
    rw [Bool.and_eq_true] at h
    obtain ⟨hac, h⟩ := h
    split at h
    · rename_i m s1 dp s2 k2 s3 sp s4 k1 s5 AS'
      split at h
      · rename_i q1 q2 e1 e2
        obtain ⟨f1, f2, f3, f4, f5⟩ := hS
        rw [Bool.and_eq_true] at h
        obtain ⟨h0, h⟩ := h
        simp only [Bool.and_eq_true, beq_iff_eq, decide_eq_true_eq] at h0
        obtain ⟨a1, a2, a3, a4, a5, a6, a7, a8, a9, a10, a11⟩ := h0
        obtain ⟨xm, st1, t1, im, gm1, -, g1⟩ := ck_qi f3
        subst t1
        obtain ⟨xd, st2, t2, id1, gd1, -, g2⟩ := ck_qi g1
        subst t2
        obtain ⟨st3, t3, g3⟩ := ck_qr g2
        subst t3
        obtain ⟨xs, st4, t4, is1, gs1, -, g4⟩ := ck_qi g3
        subst t4
        obtain ⟨st5, t5, g5⟩ := ck_qr g4
        subst t5
        obtain ⟨b1, b2⟩ := ck_kd_s f1 f4 e1
        obtain ⟨b3, b4⟩ := ck_kd_s f1 f4 e2
        have c1 := gm1.1
        have c2 := gm1.2.1
        have c3 := gd1.1
        have c4 := gd1.2.1
        have c5 := gs1.1
        have c6 := gs1.2.1
        have hg := gm_p_acopy (X := X) (LX := LX) (d := d) (L := L) (st := st5) (n := n) (K := K) (R := R) (M := M) (sp := xs) (dp := xd) (m := xm) hat hac b1 (by rw [b2]; exact a1) b3 (by rw [b4]; exact a2) (gm_ir_w is1) (gm_ir_w id1) (gm_ir_w im) (by omega) (by omega) (by omega) (by rw [b2]; omega) (by rw [b4]; omega) (ck_sum8_s g5 a9) a10
        refine gm_sz hg (hk _ _ _ _ _ _ _ _ _ _ _ _ h ⟨⟨f1.1, f1.2.1, fun a b hv => ?_, f1.2.2.2.1, O.2.2.hJ K K M _ (fun _ _ _ => rfl) (fun a b hv j j1 j2 => ?_) f1.2.2.2.2⟩, f2, ck_sh_s g5, ⟨f4.1, f4.2.1, fun p hp => ?_⟩, ⟨f5.1, f5.2.1, fun a b ha hb => ?_, f5.2.2.2⟩⟩)
        · obtain ⟨v1, v2⟩ := f1.2.2.1 a b hv
          refine ⟨v1, fun j j1 j2 => ?_⟩
          unfold gm_cpM
          split
          · rename_i q
            obtain ⟨rfl, q2, q3⟩ := q
            cases hr : ck_rd O F k1 sp.1 (sp.2.1 + m.2.1 - 1) with
            | none =>
              rw [hr] at a11
              rw [Bool.and_eq_true] at a11
              rw [List.isEmpty_iff.mp a11.1] at hv
              cases hv
            | some z =>
              rw [hr] at a11
              have z1 := (ck_rd_s f1 f4 hr).2 (xs + (j - xd)) (by omega) (by omega)
              dsimp only at a11
              rw [gm_tyw_def] at a11
              rw [Bool.and_eq_true] at a11
              have z2 := List.all_eq_true.mp a11.2 b hv
              simp only [Bool.or_eq_true, Bool.and_eq_true, decide_eq_true_eq] at z2
              have z3 := z1.2.1
              have z4 := z1.2.2.1
              refine ⟨z1.1, ?_, ?_⟩
              · rcases z2 with z2 | z2 | z2
                · omega
                · omega
                · omega
              · rcases z2 with z2 | z2 | z2
                · omega
                · omega
                · omega
          · exact v2 j j1 j2
        · unfold gm_cpM
          rw [if_neg]
          rintro ⟨rfl, q2, q3⟩
          cases hr : ck_rd O F k1 sp.1 (sp.2.1 + m.2.1 - 1) with
          | none =>
            rw [hr] at a11
            rw [Bool.and_eq_true] at a11
            rw [List.isEmpty_iff.mp a11.2] at hv
            cases hv
          | some z =>
            rw [hr] at a11
            dsimp only at a11
            rw [gm_tyw_def, gm_fpw_def] at a11
            rw [Bool.and_eq_true] at a11
            have z2 := List.all_eq_true.mp a11.1 b hv
            simp only [Bool.or_eq_true, decide_eq_true_eq] at z2
            omega
        · obtain ⟨r, hr, r1, r2, r3⟩ := ck_cws_s (ws := [(k2, dp.1, dp.2.1 + m.2.1 - 1)]) (l := F.2.2) hp
          have r4 := f4.2.2 r hr
          rw [r1, r2]
          refine ⟨r4.1, fun j j1 j2 => ?_⟩
          obtain ⟨r5, r6⟩ := r3 j j1 j2
          unfold gm_cpM
          rw [if_neg]
          · exact r4.2 j r5.1 r5.2
          · intro q
            exact r6 _ List.mem_cons_self ⟨q.1.symm, by dsimp only; omega, by dsimp only; omega⟩
        · rw [← f5.2.2.1 a b ha hb]
          unfold gm_cpM
          rw [if_neg]
          intro q
          rw [ck_okW_def] at a8
          simp only [Bool.or_eq_true, decide_eq_true_eq, List.any_eq_true, Bool.and_eq_true, beq_iff_eq] at a8
          rcases a8 with a8 | ⟨w, w1, w2, w3, w4⟩
          · have := q.1
            omega
          · exact hb w w1 ⟨w2.trans q.1.symm, by omega, by omega⟩
      · cases h
    · cases h
  | some q =>
    rw [hc] at h
    obtain ⟨kd, mj⟩ := q
    dsimp only at h
    by_cases e5 : kd = 5
    · subst e5
      rw [if_pos rfl, Bool.and_eq_true] at h
      obtain ⟨h2, h⟩ := h
      simp only [Bool.and_eq_true, decide_eq_true_eq, List.isEmpty_iff, Bool.not_eq_true', List.isEmpty_eq_false_iff] at h2
      obtain ⟨hh, hhj, e1, e3, e4, e5, e6⟩ := h2
      obtain ⟨t1, t2, t3, t4⟩ := ck_take (m := gm_na mj) hS.2.2.1
      refine ck_call_s (pc' := pc + 3) hs hE hS t2 t4 hk (fun d' bc' bs' a1 a2 a3 a4 => ?_) h
      have := gm_c_statX (bc := bc) (bs := bs) hat hc e1 hh hhj (as := (st.take (gm_na mj)).reverse) (st := st.drop (gm_na mj)) (by rw [List.length_reverse, t1]; exact e3) (t3 e4) (by rw [List.length_reverse, t1, e3]; exact e5) (ck_sum8_s t4 e6) a1 a2 a3 (gm_Wp_mono (fun o n K R M hq => gm_cont_H hh hq) a4)
      rw [List.reverse_reverse, List.take_append_drop] at this
      exact this
    rw [if_neg e5] at h
    rw [Bool.and_eq_true] at h
    obtain ⟨h0, h⟩ := h
    simp only [Bool.and_eq_true, beq_iff_eq, decide_eq_true_eq] at h0
    obtain ⟨rfl, h1⟩ := h0
    split at h
    · rename_i e
      subst e
      rcases AS with _ | ⟨⟨b | b | r | c, t⟩, _ | ⟨⟨a | a | r' | c', s⟩, AS⟩⟩ <;> (try cases h)
      obtain ⟨f1, f2, f3, f4, f5⟩ := hS
      obtain ⟨y, st, rfl, hy, hb, -, hst⟩ := ck_qi f3
      obtain ⟨x, st, rfl, hx, ha, -, hst⟩ := ck_qi hst
      dsimp only at h
      rw [Bool.and_eq_true] at h
      obtain ⟨a1, a2, -⟩ := ha
      obtain ⟨b1, b2, -⟩ := hb
      refine gm_sz (gm_p_max hat hc (gm_ir_w hx) (gm_ir_w hy) (ck_sum8_s hst h.1) h1) (hk _ _ _ _ _ _ _ _ _ _ _ _ h.2 ⟨f1, f2, ck_pi ?_ ⟨?_, ?_, ck_gt_none⟩ (s := none) trivial hst, f4, f5⟩)
      · unfold gm_ir at *; omega
      · dsimp only; split <;> omega
      · dsimp only; split <;> omega
    · split at h
      · rename_i e
        subst e
        rcases AS with _ | ⟨⟨b | b | r | c, t⟩, _ | ⟨⟨a | a | r' | c', s⟩, AS⟩⟩ <;> (try cases h)
        obtain ⟨f1, f2, f3, f4, f5⟩ := hS
        obtain ⟨y, st, rfl, hy, hb, -, hst⟩ := ck_qi f3
        obtain ⟨x, st, rfl, hx, ha, -, hst⟩ := ck_qi hst
        dsimp only at h
        rw [Bool.and_eq_true] at h
        obtain ⟨a1, a2, -⟩ := ha
        obtain ⟨b1, b2, -⟩ := hb
        refine gm_sz (gm_p_min hat hc (gm_ir_w hx) (gm_ir_w hy) (ck_sum8_s hst h.1) h1) (hk _ _ _ _ _ _ _ _ _ _ _ _ h.2 ⟨f1, f2, ck_pi ?_ ⟨?_, ?_, ck_gt_none⟩ (s := none) trivial hst, f4, f5⟩)
        · unfold gm_ir at *; omega
        · dsimp only; split <;> omega
        · dsimp only; split <;> omega
      · rw [Bool.and_eq_true] at h
        obtain ⟨h2, h⟩ := h
        simp only [Bool.and_eq_true, decide_eq_true_eq, List.isEmpty_iff] at h2
        obtain ⟨hh, e1, e3, e4, e5, e6⟩ := h2
        obtain ⟨t1, t2, t3, t4⟩ := ck_take (m := gm_na mj) hS.2.2.1
        refine ck_call_s (pc' := pc + 3) hs hE hS t2 t4 hk (fun d' bc' bs' a1 a2 a3 a4 => ?_) h
        have := gm_c_stat (bc := bc) (bs := bs) hat hc e1 hh (as := (st.take (gm_na mj)).reverse) (st := st.drop (gm_na mj)) (by rw [List.length_reverse, t1]; exact e3) (t3 e4) (by rw [List.length_reverse, t1, e3]; exact e5) (ck_sum8_s t4 e6) a1 a2 a3 (gm_Wp_mono (fun o n K R M hq => gm_cont_H hh hq) a4)
        rw [List.reverse_reverse, List.take_append_drop] at this
        exact this
theorem ck_j_virt {ix : Nat} (hE : ck_nmu O ∧ ck_OkE O X LX E) (hs : ∀ s, s < 100 → σ s = σ0 s) (hat : gm_at mi pc = some (.invokevirtual ix)) (hS : ck_St O σ W n0 K0 R0 M0 AL AS F L st n K R M) (hk : ck_On O X LX σ mi d W n0 K0 R0 M0 (ck_Q O σ0 W n0 K0 R0 M0 outs) k) (h : ck_j O lx XF E mi d n0 W outs bc bs pc AL AS n F k (.invokevirtual ix) = true) : gm_Wp X LX d bc bs mi pc L st n K R M (ck_Q O σ0 W n0 K0 R0 M0 outs) := by
  unfold ck_j at h
  dsimp only at h
  cases hc : gm_cal (gm_ow mi) ix with
  | none =>
    rw [hc] at h
    dsimp only at h
    cases hu : gm_una (gm_ow mi) ix with
    | none => rw [hu] at h; cases h
    | some na =>
      rw [hu] at h
      dsimp only at h
      obtain ⟨t1, t2, t3, t4⟩ := ck_take (m := na) hS.2.2.1
      split at h
      · rename_i r s AS' hd
        rw [hd] at t4
        obtain ⟨st', hst', hst⟩ := ck_qr t4
        cases hq : ck_kd O F r with
        | none => rw [hq] at h; cases h
        | some p =>
          rw [hq] at h
          dsimp only at h
          obtain ⟨g1, g2⟩ := ck_kd_s hS.1 hS.2.2.2.1 hq
          cases hup : gm_up (gm_ow mi) ix (p.1 - 4) with
          | none => rw [hup] at h; cases h
          | some mj =>
            rw [hup] at h
            dsimp only at h
            rw [Bool.and_eq_true] at h
            obtain ⟨h0, h⟩ := h
            simp only [Bool.and_eq_true, decide_eq_true_eq, List.isEmpty_iff] at h0
            obtain ⟨hh, e1, e2, e3, e4, e5, e6⟩ := h0
            refine ck_call_s (pc' := pc + 3) (vs := gm_vr r :: (st.take na).reverse) (as := (.inr (.inr (.inl r))) :: (AS.take na).reverse.map Prod.fst) hs hE hS ⟨_, _, rfl, rfl, t2⟩ hst hk (fun d' bc' bs' a1 a2 a3 a4 => ?_) h
            have := gm_c_up (bc := bc) (bs := bs) hat hup hh (as := (st.take na).reverse) (st := st') g1 (show (K r).1 = (p.1 - 4) + 4 by rw [g2]; omega) (by rw [List.length_reverse, t1, e2, e3]) (t3 e4) (by rw [List.length_reverse, t1, e2]; exact e5) (ck_sum8_s hst e6) a1 a2 a3 (gm_Wp_mono (fun o n K R M hq => gm_cont_H hh hq) a4)
            rw [List.reverse_reverse, ← hst', List.take_append_drop] at this
            exact this
      · cases h
  | some q =>
    rw [hc] at h
    obtain ⟨kd, mj⟩ := q
    dsimp only at h
    split at h
    · rename_i e82
      subst e82
      rcases AS with _ | ⟨⟨a | a | r | id, s⟩, AS⟩ <;> (try exact absurd (show false = true from h) Bool.false_ne_true)
      obtain ⟨f1, f2, f3, f4, f5⟩ := hS
      obtain ⟨st', rfl, hst⟩ := ck_qo f3
      dsimp only at h
      simp only [Bool.and_eq_true, beq_iff_eq, decide_eq_true_eq, List.isEmpty_iff] at h
      obtain ⟨⟨rfl, hh, hid, h8, hd⟩, h⟩ := h
      have h9 := (gm_chk_s hid).1.2
      have h7 : gm_ir (gm_slen id : Int) := by unfold gm_ir; omega
      have := gm_c_vstr (X := X) (LX := LX) (L := L) (n := n) (K := K) (R := R) (M := M) (Q := ck_Q O σ0 W n0 K0 R0 M0 outs) (bc := bc) (bs := bs) (d' := 1) (bc' := 0) (bs' := 0) (mj := 82) (as := []) (st := st') hat hc (by decide +kernel) hh hid (by decide +kernel) (by decide +kernel) (fun _ h => nomatch h) (by decide +kernel) (ck_sum8_s hst h8) hd (Nat.zero_le _) (Nat.zero_le _) (gm_w82 (Nat.le_refl _) hid (hk _ _ _ _ _ _ _ _ _ _ _ _ h ⟨f1, f2, ck_pi h7 (ck_one_s _) (s := none) trivial hst, f4, f5⟩))
      exact this
    split at h
    · rename_i e82 e84
      subst e84
      rcases AS with _ | ⟨⟨e | e | r | c, t⟩, _ | ⟨⟨a | a | r | id, s⟩, AS⟩⟩ <;> (try exact absurd (show false = true from h) Bool.false_ne_true)
      obtain ⟨f1, f2, f3, f4, f5⟩ := hS
      obtain ⟨i, st1, rfl, hi, he, -, hst1⟩ := ck_qi f3
      obtain ⟨st', rfl, hst⟩ := ck_qo hst1
      dsimp only at h
      simp only [Bool.and_eq_true, beq_iff_eq, decide_eq_true_eq, List.isEmpty_iff] at h
      obtain ⟨⟨rfl, hh, hid, h8, hd, hl, hr⟩, h⟩ := h
      have hi1 := he.1
      have hi2 := he.2.1
      have h9 := ((gm_chk_s hid).2 i.toNat (by omega)).2
      have h7 : gm_ir (gm_chv id i.toNat) := by unfold gm_ir; omega
      have h5 : ∀ v ∈ [gm_vi i], ¬ gm_sort v = 1 := fun v hv => by
        rw [List.mem_singleton.mp hv]
        simp [gm_sort]
      have h6 : ck_gi σ (0, 127, []) (gm_chv id i.toNat) := ⟨h9.1, by dsimp only; omega, ck_gt_none⟩
      have := gm_c_vstr (X := X) (LX := LX) (L := L) (n := n) (K := K) (R := R) (M := M) (Q := ck_Q O σ0 W n0 K0 R0 M0 outs) (bc := bc) (bs := bs) (d' := 3) (bc' := 0) (bs' := 0) (mj := 84) (as := [gm_vi i]) (st := st') hat hc (by decide +kernel) hh hid (by decide +kernel) (show 1 = gm_na 84 by decide +kernel) h5 (show 1 + 1 ≤ gm_ml 84 by decide +kernel) (ck_sum8_s hst h8) hd (Nat.zero_le _) (Nat.zero_le _) (gm_w84 (Nat.le_refl _) hid ⟨by omega, by omega⟩ (hk _ _ _ _ _ _ _ _ _ _ _ _ h ⟨f1, f2, ck_pi h7 h6 (s := none) trivial hst, f4, f5⟩))
      exact this
    rw [Bool.and_eq_true] at h
    obtain ⟨h0, h⟩ := h
    simp only [Bool.and_eq_true, beq_iff_eq, decide_eq_true_eq] at h0
    obtain ⟨rfl, e1, e2, e3, e4, e5⟩ := h0
    obtain ⟨t1, t2, t3, t4⟩ := ck_take (m := gm_na mj) hS.2.2.1
    split at h
    · rename_i r s AS' hd
      rw [hd] at t4
      obtain ⟨st', hst', hst⟩ := ck_qr t4
      rw [Bool.and_eq_true, Bool.and_eq_true] at h
      obtain ⟨⟨h1, h2⟩, h⟩ := h
      cases hq : ck_kd O F r with
      | none => rw [hq] at h2; cases h2
      | some p =>
        rw [hq] at h2
        simp only [beq_iff_eq] at h2
        obtain ⟨g1, g2⟩ := ck_kd_s hS.1 hS.2.2.2.1 hq
        refine ck_call_s (pc' := pc + 3) (vs := gm_vr r :: (st.take (gm_na mj)).reverse) (as := (.inr (.inr (.inl r))) :: (AS.take (gm_na mj)).reverse.map Prod.fst) hs hE hS ⟨_, _, rfl, rfl, t2⟩ hst hk (fun d' bc' bs' a1 a2 a3 a4 => ?_) h
        have hmj := (gm_cal_spec hc).1
        have := gm_c_virtH (bc := bc) (bs := bs) hat hc e1 (as := (st.take (gm_na mj)).reverse) (st := st') g1 (by rw [g2]; exact h2) e2 (gm_cio_spec hmj e2) (by rw [List.length_reverse, t1]; exact e3) (t3 e4) (by rw [List.length_reverse, t1, e3]; exact e5) (ck_sum8_s hst h1) a1 a2 a3 a4
        rw [List.reverse_reverse, ← hst', List.take_append_drop] at this
        exact this
    · cases h
theorem ck_j_spec {ix : Nat} (hE : ck_nmu O ∧ ck_OkE O X LX E) (hs : ∀ s, s < 100 → σ s = σ0 s) (hat : gm_at mi pc = some (.invokespecial ix)) (hS : ck_St O σ W n0 K0 R0 M0 AL AS F L st n K R M) (hk : ck_On O X LX σ mi d W n0 K0 R0 M0 (ck_Q O σ0 W n0 K0 R0 M0 outs) k) (h : ck_j O lx XF E mi d n0 W outs bc bs pc AL AS n F k (.invokespecial ix) = true) : gm_Wp X LX d bc bs mi pc L st n K R M (ck_Q O σ0 W n0 K0 R0 M0 outs) := by
  unfold ck_j at h
  dsimp only at h
  split at h
  · rename_i ho
    rcases AS with _ | ⟨⟨a | a | r | c, s⟩, AS⟩ <;> (try cases h)
    obtain ⟨f1, f2, f3, f4, f5⟩ := hS
    obtain ⟨st, rfl, hst⟩ := ck_qr f3
    dsimp only at h
    simp only [Bool.and_eq_true, decide_eq_true_eq] at h
    obtain ⟨⟨h1, h2, h3⟩, h⟩ := h
    exact gm_sz (gm_p_oinit hat ho h3 (ck_sum8_s hst h1) h2) (hk _ _ _ _ _ _ _ _ _ _ _ _ h ⟨f1, f2, hst, f4, f5⟩)
  · cases hc : gm_cal (gm_ow mi) ix with
    | none => rw [hc] at h; cases h
    | some q =>
      rw [hc] at h
      obtain ⟨kd, mj⟩ := q
      dsimp only at h
      rw [Bool.and_eq_true] at h
      obtain ⟨h0, h⟩ := h
      simp only [Bool.and_eq_true, Bool.or_eq_true, beq_iff_eq, decide_eq_true_eq, List.isEmpty_iff] at h0
      obtain ⟨hh, e0, e1, e3, e4, e5⟩ := h0
      obtain ⟨t1, t2, t3, t4⟩ := ck_take (m := gm_na mj) hS.2.2.1
      split at h
      · rename_i r s AS' hd
        rw [hd] at t4
        obtain ⟨st', hst', hst⟩ := ck_qr t4
        rw [Bool.and_eq_true] at h
        obtain ⟨h2, h⟩ := h
        simp only [Bool.and_eq_true, decide_eq_true_eq] at h2
        obtain ⟨h1, h3⟩ := h2
        refine ck_call_s (pc' := pc + 3) (vs := gm_vr r :: (st.take (gm_na mj)).reverse) (as := (.inr (.inr (.inl r))) :: (AS.take (gm_na mj)).reverse.map Prod.fst) hs hE hS ⟨_, _, rfl, rfl, t2⟩ hst hk (fun d' bc' bs' a1 a2 a3 a4 => ?_) h
        have := gm_c_init (bc := bc) (bs := bs) hat hc e0 e1 hh (as := (st.take (gm_na mj)).reverse) (st := st') h3 (by rw [List.length_reverse, t1]; exact e3) (t3 e4) (by rw [List.length_reverse, t1, e3]; exact e5) (ck_sum8_s hst h1) a1 a2 a3 (gm_Wp_mono (fun o n K R M hq => gm_cont_H hh hq) a4)
        rw [List.reverse_reverse, ← hst', List.take_append_drop] at this
        exact this
      · cases h
theorem ck_j_iret  (hs : ∀ s, s < 100 → σ s = σ0 s) (hat : gm_at mi pc = some (.ireturn)) (hS : ck_St O σ W n0 K0 R0 M0 AL AS F L st n K R M) (hk : ck_On O X LX σ mi d W n0 K0 R0 M0 (ck_Q O σ0 W n0 K0 R0 M0 outs) k) (h : ck_j O lx XF E mi d n0 W outs bc bs pc AL AS n F k (.ireturn) = true) : gm_Wp X LX d bc bs mi pc L st n K R M (ck_Q O σ0 W n0 K0 R0 M0 outs) := by
  unfold ck_j at h
  dsimp only at h
  split at h
  · rename_i a s
    obtain ⟨f1, f2, f3, f4, f5⟩ := hS
    obtain ⟨x, st, rfl, hx, ha, hsx, hst⟩ := ck_qi f3
    cases hst
    split at h
    · rename_i e
      cases hg : ck_sgn a s with
      | false =>
        rw [hg] at h
        exact gm_r_int hat (.inl e) (ck_end_s (how := .inr (some (.inl a))) hs f1 f4 f5 ⟨x, rfl, hx, ha⟩ h)
      | true =>
        rw [hg] at h
        have h : (ck_br .lt a s (ck_one 0) none AL F (fun _ F => ck_end O outs (.inr (some (.inl (ck_rf .lt a (ck_one 0))))) n F) && ck_br .ge a s (ck_one 0) none AL F (fun _ F => ck_end O outs (.inr (some (.inl (ck_rf .ge a (ck_one 0))))) n F)) = true := h
        rw [Bool.and_eq_true] at h
        have hS0 : ck_St O σ W n0 K0 R0 M0 AL [] F L [] n K R M := ⟨f1, f2, rfl, f4, f5⟩
        by_cases hx0 : x < 0
        · exact ck_br_s (c := .lt) hS0 hx ha hsx ⟨by decide, by decide⟩ (ck_one_s 0) (t := none) trivial (show gm_cm .lt x 0 from hx0) h.1 (fun AL F hq hS => gm_r_int hat (.inl e) (ck_end_s (how := .inr (some (.inl (ck_rf .lt a (ck_one 0))))) hs hS.1 hS.2.2.2.1 hS.2.2.2.2 ⟨x, rfl, hx, ck_rf_s ha (ck_one_s 0) (show gm_cm .lt x 0 from hx0)⟩ hq))
        · exact ck_br_s (c := .ge) hS0 hx ha hsx ⟨by decide, by decide⟩ (ck_one_s 0) (t := none) trivial (show gm_cm .ge x 0 by show (0 : Int) ≤ x; omega) h.2 (fun AL F hq hS => gm_r_int hat (.inl e) (ck_end_s (how := .inr (some (.inl (ck_rf .ge a (ck_one 0))))) hs hS.1 hS.2.2.2.1 hS.2.2.2.2 ⟨x, rfl, hx, ck_rf_s ha (ck_one_s 0) (show gm_cm .ge x 0 by show (0 : Int) ≤ x; omega)⟩ hq))
    · rename_i e
      simp only [Bool.and_eq_true, decide_eq_true_eq] at h
      have := ha.1
      have := ha.2.1
      exact gm_r_int hat (.inr ⟨e, by omega⟩) (ck_end_s (how := .inr (some (.inl a))) hs f1 f4 f5 ⟨x, rfl, hx, ha⟩ h.2)
    · cases h
  · cases h
theorem ck_j_vret  (hs : ∀ s, s < 100 → σ s = σ0 s) (hat : gm_at mi pc = some (.return_)) (hS : ck_St O σ W n0 K0 R0 M0 AL AS F L st n K R M) (hk : ck_On O X LX σ mi d W n0 K0 R0 M0 (ck_Q O σ0 W n0 K0 R0 M0 outs) k) (h : ck_j O lx XF E mi d n0 W outs bc bs pc AL AS n F k (.return_) = true) : gm_Wp X LX d bc bs mi pc L st n K R M (ck_Q O σ0 W n0 K0 R0 M0 outs) := by
  unfold ck_j at h
  dsimp only at h
  split at h
  · obtain ⟨f1, f2, f3, f4, f5⟩ := hS
    cases f3
    rw [Bool.and_eq_true, Option.isNone_iff_eq_none] at h
    exact gm_r_void hat h.1 (ck_end_s (how := .inr none) hs f1 f4 f5 trivial h.2)
  · cases h
theorem ck_j_aret  (hs : ∀ s, s < 100 → σ s = σ0 s) (hat : gm_at mi pc = some (.areturn)) (hS : ck_St O σ W n0 K0 R0 M0 AL AS F L st n K R M) (hk : ck_On O X LX σ mi d W n0 K0 R0 M0 (ck_Q O σ0 W n0 K0 R0 M0 outs) k) (h : ck_j O lx XF E mi d n0 W outs bc bs pc AL AS n F k (.areturn) = true) : gm_Wp X LX d bc bs mi pc L st n K R M (ck_Q O σ0 W n0 K0 R0 M0 outs) := by
  unfold ck_j at h
  dsimp only at h
  split at h
  · rename_i r s
    obtain ⟨f1, f2, f3, f4, f5⟩ := hS
    obtain ⟨st, rfl, hst⟩ := ck_qr f3
    cases hst
    split at h
    · rename_i e
      exact gm_r_ref hat (.inl ⟨_, e⟩) (ck_end_s (how := .inr (some (.inr (.inr (.inl r))))) hs f1 f4 f5 rfl h)
    · rename_i e
      exact gm_r_ref hat (.inr ⟨_, e⟩) (ck_end_s (how := .inr (some (.inr (.inr (.inl r))))) hs f1 f4 f5 rfl h)
    · cases h
  · cases h
end CM
end
/-! 26.cg -/
section
/-! THE CHECKER is right. -/
section CG
variable {O : gm_Or} {X : Int → Int} {LX : Nat} {lx : Option Nat} {XF : List (Int × Int × ck_I)} {E : List (Nat × List ck_Sum)} {mi d n0 : Nat} {W : List (Nat × Int × Int) × List (Nat × Int)} {outs : List ck_Oc} {bc bs pc : Nat} {L : gm_L} {st : List gm_V} {n : Nat} {K : gm_K} {R : gm_R} {M : gm_M} {AL : ck_AL} {AS : ck_AS} {F : ck_F} {σ σ0 : Nat → Int} {K0 : gm_K} {R0 : gm_R} {M0 : gm_M} {k : Nat → Nat → Nat → ck_AL → ck_AS → Nat → ck_F → Bool}
theorem ck_j_s {i : Instr} (hE : ck_nmu O ∧ ck_OkE O X LX E) (hX : ck_OkX σ X XF) (hlx : ∀ l, lx = some l → l = LX) (hs : ∀ s, s < 100 → σ s = σ0 s) (hat : gm_at mi pc = some i) (hS : ck_St O σ W n0 K0 R0 M0 AL AS F L st n K R M) (hk : ck_On O X LX σ mi d W n0 K0 R0 M0 (ck_Q O σ0 W n0 K0 R0 M0 outs) k) (h : ck_j O lx XF E mi d n0 W outs bc bs pc AL AS n F k i = true) : gm_Wp X LX d bc bs mi pc L st n K R M (ck_Q O σ0 W n0 K0 R0 M0 outs) := by
  cases i
  case ineg => exact ck_j_ineg hat hS hk h
  case i2b => exact ck_j_i2b hat hS hk h
  case i2l => exact ck_j_i2l hat hS hk h
  case l2i => exact ck_j_l2i hat hS hk h
  case lcmp => exact ck_j_lcmp hat hS hk h
  case idiv => exact ck_j_idiv hat hS hk h
  case irem => exact ck_j_irem hat hS hk h
  case dup => exact ck_j_dup hat hS hk h
  case pop => exact ck_j_pop hat hS hk h
  case dup2 => exact ck_j_dup2 hat hS hk h
  case iinc => exact ck_j_iinc hat hS hk h
  case goto => exact ck_j_goto hat hS hk h
  case ifCond => exact ck_j_if hat hS hk h
  case if_icmp => exact ck_j_ic hat hS hk h
  case ifnull => exact ck_j_ifnull hat hS hk h
  case ifnonnull => exact ck_j_ifnonnull hat hS hk h
  case tableswitch => exact ck_j_sw hat hS hk h
  case getfield => exact ck_j_get hat hS hk h
  case putfield => exact ck_j_put hat hS hk h
  case iaload => exact ck_j_iald hX hlx hat hS hk h
  case baload => exact ck_j_bald hat hS hk h
  case laload => exact ck_j_lald hat hS hk h
  case aaload => exact ck_j_aald hat hS hk h
  case iastore => exact ck_j_iast hat hS hk h
  case bastore => exact ck_j_bast hat hS hk h
  case lastore => exact ck_j_last hat hS hk h
  case aastore => exact ck_j_aast hat hS hk h
  case arraylength => exact ck_j_alen hlx hat hS hk h
  case new => exact ck_j_new hs hat hS hk h
  case newarray => exact ck_j_newa hat hS hk h
  case anewarray => exact ck_j_anew hat hS hk h
  case ldc => exact ck_j_ldc hat hS hk h
  case ldc_w => exact ck_j_ldc_w hat hS hk h
  case ldc2_w => exact ck_j_ldcl hat hS hk h
  case invokestatic => exact ck_j_stat hE hs hat hS hk h
  case invokevirtual => exact ck_j_virt hE hs hat hS hk h
  case invokespecial => exact ck_j_spec hE hs hat hS hk h
  case ireturn => exact ck_j_iret hs hat hS hk h
  case return_ => exact ck_j_vret hs hat hS hk h
  case areturn => exact ck_j_aret hs hat hS hk h
  all_goals exact absurd (show false = true from h) Bool.false_ne_true
theorem ck_fk_s {i : Instr} {a b : ck_I} (h : ck_fk i a b = true) : ck_sg b = true := by
  unfold ck_fk at h
  split at h
  · rw [Bool.and_eq_true] at h; exact h.1
  · cases h
theorem ck_i_s {i : Instr} (hE : ck_nmu O ∧ ck_OkE O X LX E) (hX : ck_OkX σ X XF) (hlx : ∀ l, lx = some l → l = LX) (hs : ∀ s, s < 100 → σ s = σ0 s) (hat : gm_at mi pc = some i) (hS : ck_St O σ W n0 K0 R0 M0 AL AS F L st n K R M) (hk : ck_On O X LX σ mi d W n0 K0 R0 M0 (ck_Q O σ0 W n0 K0 R0 M0 outs) k) (h : ck_i O lx XF E mi d n0 W outs bc bs pc AL AS n F k i = true) : gm_Wp X LX d bc bs mi pc L st n K R M (ck_Q O σ0 W n0 K0 R0 M0 outs) := by
  unfold ck_i at h
  obtain ⟨f1, f2, f3, f4, f5⟩ := _root_.id hS
  cases hc : gm_const i with
  | some v =>
    rw [hc] at h
    dsimp only at h
    rw [Bool.and_eq_true] at h
    exact gm_sz (gm_p_const hat hc) (hk _ _ _ _ _ _ _ _ _ _ _ _ h.2 ⟨f1, f2, ⟨v, _, rfl, ⟨ck_cv_s h.1, trivial⟩, f3⟩, f4, f5⟩)
  | none =>
  rw [hc] at h
  dsimp only at h
  cases hl : gm_load i with
  | some q =>
    rw [hl] at h
    obtain ⟨sr, j⟩ := q
    dsimp only at h
    split at h
    · rename_i a hj
      rw [Bool.and_eq_true, beq_iff_eq] at h
      obtain ⟨u, hu1, hu2⟩ := f2.2 j a hj
      exact gm_sz (gm_p_load hat hl hu1 (by rw [ck_so_s hu2]; exact h.1)) (hk _ _ _ _ _ _ _ _ _ _ _ _ h.2 ⟨f1, f2, ⟨u, _, rfl, ⟨hu2, u, hu1, Or.inl ⟨rfl, rfl⟩⟩, f3⟩, f4, f5⟩)
    · cases h
  | none =>
  rw [hl] at h
  dsimp only at h
  cases ht : gm_stor i with
  | some q =>
    rw [ht] at h
    obtain ⟨sr, j⟩ := q
    dsimp only at h
    rcases AS with _ | ⟨q, AS⟩
    · cases h
    · obtain ⟨v, st', e0, hso, hv, hst⟩ := ck_q1 f3
      subst e0
      dsimp only at h
      simp only [Bool.and_eq_true, beq_iff_eq, decide_eq_true_eq] at h
      exact gm_sz (gm_p_stor hat ht (by rw [← f2.1]; exact h.1.2) (by rw [hso]; exact h.1.1)) (hk _ _ _ _ _ _ _ _ _ _ _ _ h.2 ⟨f1, ck_lst_s f2 hv.1, ck_sl_s hst, f4, f5⟩)
  | none =>
  rw [ht] at h
  dsimp only at h
  cases hb : gm_bin i with
  | some f =>
    rw [hb] at h
    rcases AS with _ | ⟨⟨b | b | r | c, t⟩, _ | ⟨⟨a | a | r' | c', s⟩, AS⟩⟩ <;> (try cases h)
    obtain ⟨y, st, rfl, hy, hb2, hsy, hst⟩ := ck_qi f3
    obtain ⟨x, st, rfl, hx, ha, hsx, hst⟩ := ck_qi hst
    dsimp only at h
    refine gm_sz (gm_p_bin hat hb) (ck_nv ?_)
    cases hk1 : ck_fk i a b with
    | true =>
      rw [hk1] at h
      have e1 := ck_sg_s hb2 (ck_fk_s hk1)
      have h2 := List.all_eq_true.mp h (x - a.1).toNat (List.mem_range.mpr (by have := ha.1; have := ha.2.1; omega))
      rw [show a.1 + ((x - a.1).toNat : Int) = x by have := ha.1; omega, ← e1] at h2
      exact hk _ _ _ _ _ _ _ _ _ _ _ _ h2 ⟨f1, ck_qL_s ⟨Int.le_refl _, Int.le_refl _⟩ ha f2, ck_pi (ck_w_ir _) (ck_one_s _) (s := none) trivial hst, ck_qF_s ⟨Int.le_refl _, Int.le_refl _⟩ ha f4, f5⟩
    | false =>
      rw [hk1] at h
      cases hk2 : ck_fk i b a with
      | true =>
        rw [hk2] at h
        have e1 := ck_sg_s ha (ck_fk_s hk2)
        have h2 := List.all_eq_true.mp h (y - b.1).toNat (List.mem_range.mpr (by have := hb2.1; have := hb2.2.1; omega))
        rw [show b.1 + ((y - b.1).toNat : Int) = y by have := hb2.1; omega, ← e1] at h2
        exact hk _ _ _ _ _ _ _ _ _ _ _ _ h2 ⟨f1, ck_qL_s ⟨Int.le_refl _, Int.le_refl _⟩ hb2 f2, ck_pi (ck_w_ir _) (ck_one_s _) (s := none) trivial hst, ck_qF_s ⟨Int.le_refl _, Int.le_refl _⟩ hb2 f4, f5⟩
      | false =>
        rw [hk2] at h
        exact hk _ _ _ _ _ _ _ _ _ _ _ _ h ⟨f1, f2, ck_pi (ck_w_ir _) (ck_bo_s hb ha hb2 hx hy) (s := ck_lks O (ck_sb i a s b t)) (ck_lks_s f1 (ck_sb_s hb ha hsx hb2 hsy)) hst, f4, f5⟩
  | none =>
  rw [hb] at h
  dsimp only at h
  cases hlb : gm_lbin i with
  | some f =>
    rw [hlb] at h
    rcases AS with _ | ⟨⟨b | b | r | c, t⟩, _ | ⟨⟨a | a | r' | c', s⟩, AS⟩⟩ <;> (try cases h)
    obtain ⟨y, st, rfl, hy, hb2, hst⟩ := ck_ql f3
    obtain ⟨x, st, rfl, hx, ha, hst⟩ := ck_ql hst
    exact gm_sz (gm_p_lbin hat hlb) (ck_nv6 (hk _ _ _ _ _ _ _ _ _ _ _ _ h ⟨f1, f2, ck_pl (ck_r6_w _) (ck_tp6_s (ck_r6_w _)) hst, f4, f5⟩))
  | none =>
  rw [hlb] at h
  dsimp only at h
  cases hls : gm_lsh i with
  | some f =>
    rw [hls] at h
    rcases AS with _ | ⟨⟨b | b | r | c, t⟩, _ | ⟨⟨a | a | r' | c', s⟩, AS⟩⟩ <;> (try cases h)
    obtain ⟨y, st, rfl, hy, hb2, -, hst⟩ := ck_qi f3
    obtain ⟨x, st, rfl, hx, ha, hst⟩ := ck_ql hst
    exact gm_sz (gm_p_lsh hat hls) (ck_nv6 (hk _ _ _ _ _ _ _ _ _ _ _ _ h ⟨f1, f2, ck_pl (ck_r6_w _) (ck_tp6_s (ck_r6_w _)) hst, f4, f5⟩))
  | none =>
  rw [hls] at h
  dsimp only at h
  exact ck_j_s hE hX hlx hs hat hS hk h
/-! another meaning of one name -/
noncomputable def ck_us (σ : Nat → Int) (s : Nat) (v : Int) : Nat → Int := fun t => if t = s then v else σ t
theorem ck_nI_s {s : Nat} {v x : Int} {a : ck_I} (h : ck_nI s a = true) : ck_gi (ck_us σ s v) a x ↔ ck_gi σ a x := by
  have key : ck_gt (ck_us σ s v) a.2.2 x ↔ ck_gt σ a.2.2 x := by
    have h0 : ∀ q ∈ a.2.2, (ck_g1 (ck_us σ s v) q x ↔ ck_g1 σ q x) := by
      intro q hq
      have h := List.all_eq_true.mp h q hq
      simp only [Bool.and_eq_true, Bool.not_eq_true', beq_eq_false_iff_ne, ne_eq] at h
      have e : ck_us σ s v q.1 = σ q.1 := by unfold ck_us; rw [if_neg h.1]
      have e2 : 1000000 ≤ q.1 → ck_us σ s v (q.1 - 1000000) = σ (q.1 - 1000000) := by intro h9; unfold ck_us; rw [if_neg (by omega)]
      unfold ck_g1
      rw [e]
      constructor
      · exact fun h2 => ⟨h2.1, fun h9 => by rw [← e2 h9]; exact h2.2 h9⟩
      · exact fun h2 => ⟨h2.1, fun h9 => by rw [e2 h9]; exact h2.2 h9⟩
    exact ⟨fun h1 q hq => (h0 q hq).mp (h1 q hq), fun h1 q hq => (h0 q hq).mpr (h1 q hq)⟩
  unfold ck_gi
  rw [key]
theorem ck_nA_s {s : Nat} {v : Int} {a : ck_A} {u : gm_V} (h : ck_nA s a = true) : ck_ga (ck_us σ s v) a u ↔ ck_ga σ a u := by
  rcases a with a | a | j | j
  · constructor <;> rintro ⟨x, h1, h2, h3⟩ <;> exact ⟨x, h1, h2, by first | exact (ck_nI_s h).mp h3 | exact (ck_nI_s h).mpr h3⟩
  · constructor <;> rintro ⟨x, h1, h2, h3⟩ <;> exact ⟨x, h1, h2, by first | exact (ck_nI_s h).mp h3 | exact (ck_nI_s h).mpr h3⟩
  · exact Iff.rfl
  · exact Iff.rfl
theorem ck_nL_s {s : Nat} {v : Int} (h : ck_nL s AL = true) : ck_gl (ck_us σ s v) AL L ↔ ck_gl σ AL L := by
  have h1 : ∀ (j : Nat) (b : ck_A), AL[j]? = some (some b) → ck_nA s b = true := fun j b hb => List.all_eq_true.mp h _ (List.mem_of_getElem? hb)
  constructor
  · intro hl
    refine ⟨hl.1, fun j b hb => ?_⟩
    obtain ⟨u, h2, h3⟩ := hl.2 j b hb
    exact ⟨u, h2, (ck_nA_s (h1 j b hb)).mp h3⟩
  · intro hl
    refine ⟨hl.1, fun j b hb => ?_⟩
    obtain ⟨u, h2, h3⟩ := hl.2 j b hb
    exact ⟨u, h2, (ck_nA_s (h1 j b hb)).mpr h3⟩
theorem ck_nF_s {s : Nat} {v : Int} (h : ck_nF s F = true) : ck_gf (ck_us σ s v) F n K R M ↔ ck_gf σ F n K R M := by
  constructor
  · intro hf
    refine ⟨hf.1, hf.2.1, fun q hq => ⟨(hf.2.2 q hq).1, fun j h1 h2 => ?_⟩⟩
    have h3 := (hf.2.2 q hq).2 j h1 h2
    exact ⟨h3.1, (ck_nI_s (List.all_eq_true.mp h q hq)).mp h3.2⟩
  · intro hf
    refine ⟨hf.1, hf.2.1, fun q hq => ⟨(hf.2.2 q hq).1, fun j h1 h2 => ?_⟩⟩
    have h3 := (hf.2.2 q hq).2 j h1 h2
    exact ⟨h3.1, (ck_nI_s (List.all_eq_true.mp h q hq)).mpr h3.2⟩
/-- what stands at the place of a counter -/
noncomputable def ck_lv (c : Nat ⊕ (Nat × Int)) (L : gm_L) (M : gm_M) (v : Int) : Prop := match c with
  | .inl j => L[j]? = some (some (gm_vi v))
  | .inr q => M q.1 q.2 = v
theorem ck_loc_s {c : Nat ⊕ (Nat × Int)} {a : ck_I} (hF : gm_Fx O n K R M) (hl : ck_gl σ AL L) (hf : ck_gf σ F n K R M) (h : ck_loc O c AL F = some a) : ∃ v, ck_lv c L M v ∧ gm_ir v ∧ ck_gi σ a v := by
  unfold ck_loc at h
  split at h
  · rename_i j
    split at h
    · rename_i b hb
      cases h
      obtain ⟨u, h1, x, rfl, h2, h3⟩ := hl.2 j _ hb
      exact ⟨x, h1, h2, h3⟩
    · cases h
  · rename_i q
    obtain ⟨-, h1⟩ := ck_rd_s hF hf h
    have h2 := h1 q.2 (Int.le_refl _) (Int.le_refl _)
    exact ⟨_, rfl, h2.1, h2.2⟩
theorem ck_lv_eq {c : Nat ⊕ (Nat × Int)} {v w : Int} (h1 : ck_lv c L M v) (h2 : ck_lv c L M w) : v = w := by
  rcases c with j | q
  · have h3 : some (some (gm_vi v)) = some (some (gm_vi w)) := (show L[j]? = _ from h1).symm.trans h2
    cases h3
    rfl
  · exact (show M q.1 q.2 = v from h1).symm.trans h2
theorem ck_b_s {c : Nat ⊕ (Nat × Int)} {s : Nat} {a : ck_I} {v : Int} (hF : gm_Fx O n K R M) (hs6 : s < 1000000) (hl : ck_gl σ AL L) (hf : ck_gf σ F n K R M) (hc : ck_loc O c AL F = some a) (hv : ck_lv c L M v) (hsv : σ s = v) : ck_gl σ (ck_bL c s a AL) L ∧ ck_gf σ (ck_bF c s a F) n K R M := by
  obtain ⟨w, h1, h2, h3⟩ := ck_loc_s hF hl hf hc
  have := ck_lv_eq h1 hv
  subst this
  have h4 : ck_gi σ (a.1, a.2.1, (s, 0) :: a.2.2) w := ⟨h3.1, h3.2.1, fun q hq => by
    rcases List.mem_cons.mp hq with rfl | hq
    · exact ⟨fun _ => by rw [hsv]; exact (Int.add_zero w).symm, fun e => absurd e (by dsimp only; omega)⟩
    · exact h3.2.2 q hq⟩
  unfold ck_bL ck_bF
  split
  · rename_i j
    refine ⟨⟨by simp [hl.1], fun i b hb => ?_⟩, hf⟩
    rw [List.getElem?_set] at hb
    by_cases e : j = i
    · rw [if_pos e] at hb
      split at hb
      · cases hb
        rw [← e]
        exact ⟨gm_vi w, h1, w, rfl, h2, h4⟩
      · cases hb
    · rw [if_neg e] at hb
      exact hl.2 i b hb
  · rename_i q
    refine ⟨hl, hf.1, hf.2.1, fun p hp => ?_⟩
    rcases List.mem_cons.mp hp with rfl | hp
    · obtain ⟨h5, -⟩ := ck_rd_s hF hf hc
      refine ⟨h5, fun j h6 h7 => ?_⟩
      have h8 : j = q.2 := Int.le_antisymm h7 h6
      subst h8
      have h9 : M q.1 q.2 = w := h1
      dsimp only
      rw [h9]
      exact ⟨h2, h4⟩
    · exact hf.2.2 p hp
/-- what is known of a cut on the way -/
noncomputable def ck_Hy (O : gm_Or) (X : Int → Int) (LX mi d : Nat) (W : List (Nat × Int × Int) × List (Nat × Int)) (n0 : Nat) (K0 : gm_K) (R0 : gm_R) (M0 : gm_M) (Q : gm_Q) (σ : Nat → Int) (h : ck_H) : Prop :=
  ∀ (v : Int), ((h.2.1.2.2.1 = 0 ∨ 2000000 ≤ h.2.1.2.2.1) ∨ if h.2.1.2.2.2.2 = true then σ h.2.1.2.2.1 < v else v < σ h.2.1.2.2.1) → ∀ (bc bs : Nat) (L : gm_L) (K : gm_K) (R : gm_R) (M : gm_M), h.2.2.1 ≤ bc → h.2.2.2.1 ≤ bs → ck_St O σ W n0 K0 R0 M0 h.2.1.1 [] h.2.1.2.1 L [] h.2.2.2.2 K R M → ck_lv h.2.1.2.2.2.1 L M v → gm_Wp X LX d bc bs mi h.1 L [] h.2.2.2.2 K R M Q
theorem ck_Hy_us {Q : gm_Q} {h : ck_H} {s : Nat} {v : Int} (hs : ¬ h.2.1.2.2.1 = s) (h1 : ck_nL s h.2.1.1 = true) (h2 : ck_nF s h.2.1.2.1 = true) (hy : ck_Hy O X LX mi d W n0 K0 R0 M0 Q σ h) : ck_Hy O X LX mi d W n0 K0 R0 M0 Q (ck_us σ s v) h := by
  intro w hw bc bs L K R M a1 a2 a3 a4
  have e : ck_us σ s v h.2.1.2.2.1 = σ h.2.1.2.2.1 := by unfold ck_us; rw [if_neg hs]
  rw [e] at hw
  obtain ⟨f1, f2, f3, f4, f5⟩ := a3
  exact hy w hw bc bs L K R M a1 a2 ⟨f1, (ck_nL_s h1).mp f2, by cases f3; rfl, (ck_nF_s h2).mp f4, f5⟩ a4
theorem ck_cu_s {cuts : List (Nat × ck_C)} (h : ck_cu cuts = true) {p : Nat} {c c' : ck_C} (h1 : (p, c) ∈ cuts) (h2 : (p, c') ∈ cuts) (h3 : c.2.2.1 = c'.2.2.1) : c = c' := by
  have h4 := of_decide_eq_true (List.all_eq_true.mp h _ h1)
  have m1 : (p, c) ∈ cuts.filter fun q => q.1 == (p, c).1 && q.2.2.2.1 == (p, c).2.2.2.1 := List.mem_filter.mpr ⟨h1, by simp⟩
  have m2 : (p, c') ∈ cuts.filter fun q => q.1 == (p, c).1 && q.2.2.2.1 == (p, c).2.2.2.1 := List.mem_filter.mpr ⟨h2, by simp [h3]⟩
  revert h4 m1 m2
  generalize (cuts.filter fun q => q.1 == (p, c).1 && q.2.2.2.1 == (p, c).2.2.2.1) = l
  intro h4 m1 m2
  rcases l with _ | ⟨x, _ | ⟨y, l⟩⟩
  · cases m1
  · have e1 := List.mem_singleton.mp m1
    have e2 := List.mem_singleton.mp m2
    exact (Prod.mk.inj (e1.trans e2.symm)).2
  · simp at h4
theorem ck_go_s {cuts : List (Nat × ck_C)} (hcu : ck_cu cuts = true) (hE : ck_nmu O ∧ ck_OkE O X LX E) (hX : ∀ σ, ck_OkX σ X XF) (hlx : ∀ l, lx = some l → l = LX) : ∀ (f : Nat) (fst : Bool) (ch : List ck_H) (bc bs pc : Nat) (AL : ck_AL) (AS : ck_AS) (n : Nat) (F : ck_F) (σ : Nat → Int) (L : gm_L) (st : List gm_V) (K : gm_K) (R : gm_R) (M : gm_M), (∀ s, s < 100 → σ s = σ0 s) → (∀ h ∈ ch, (h.1, h.2.1) ∈ cuts ∧ ck_Hy O X LX mi d W n0 K0 R0 M0 (ck_Q O σ0 W n0 K0 R0 M0 outs) σ h) → ck_St O σ W n0 K0 R0 M0 AL AS F L st n K R M → ck_go O lx XF E mi d n0 W outs cuts f fst ch bc bs pc AL AS n F = true → gm_Wp X LX d bc bs mi pc L st n K R M (ck_Q O σ0 W n0 K0 R0 M0 outs) := by
  intro f
  induction f with
  | zero => intro fst ch bc bs pc AL AS n F σ L st K R M _ _ _ h; cases h
  | succ f ih =>
    intro fst ch bc bs pc AL AS n F σ L st K R M hs hch hS h
    unfold ck_go at h
    cases hcut : (if fst = true then none else cuts.find? fun q => q.1 == pc && (ck_leL AL q.2.1 && ck_leF O F q.2.2.1)) with
    | none =>
      rw [hcut] at h
      dsimp only at h
      cases hat : gm_at mi pc with
      | none => rw [hat] at h; cases h
      | some i =>
        rw [hat] at h
        dsimp only at h
        rw [ck_d_eq] at h
        exact ck_i_s hE (hX σ) hlx hs hat hS (fun bc bs pc AL AS n F L st K R M hk hS => ih false ch bc bs pc AL AS n F σ L st K R M hs hch hS hk) h
    | some qc =>
      obtain ⟨pc9, c⟩ := qc
      rw [hcut] at h
      dsimp only at h
      have hlk : (pc, c) ∈ cuts ∧ (ck_leL AL c.1 = true ∧ ck_leF O F c.2.1 = true) := by
        split at hcut
        · cases hcut
        · have h9 := List.find?_some hcut
          simp only [Bool.and_eq_true, beq_iff_eq] at h9
          have h8 := List.mem_of_find?_eq_some hcut
          rw [h9.1] at h8
          exact ⟨h8, h9.2⟩
      obtain ⟨hlk, h1, h2⟩ := hlk
      rw [Bool.and_eq_true, List.isEmpty_iff] at h
      obtain ⟨rfl, h⟩ := h
      obtain ⟨f1, f2, f3, f4, f5⟩ := hS
      cases f3
      have g2 := ck_leL_s h1 f2
      have g4 := ck_leF_s f1 f4 h2
      split at h
      · rename_i a a0 ha ha0
        obtain ⟨v, hv, hvi, hva⟩ := ck_loc_s f1 f2 f4 ha
        split at h
        · rename_i hc hfind
          have hm := List.mem_of_find?_eq_some hfind
          have hpc := List.find?_some hfind
          rw [Bool.and_eq_true, beq_iff_eq, beq_iff_eq] at hpc
          obtain ⟨hp1, hp2⟩ := hpc
          obtain ⟨hl2, hy⟩ := hch hc hm
          subst hp1
          have hp3 := ck_cu_s hcu hl2 hlk hp2
          subst hp3
          rw [Bool.and_eq_true] at h
          obtain ⟨h3, h4⟩ := h
          simp only [Bool.and_eq_true, beq_iff_eq, decide_eq_true_eq] at h3
          obtain ⟨rfl, h5, h6⟩ := h3
          rw [Bool.or_eq_true, Bool.or_eq_true, beq_iff_eq, decide_eq_true_eq] at h4
          rcases h4 with h4 | h4
          · exact hy v (.inl h4) bc bs L K R M h5 h6 ⟨f1, g2, rfl, g4, f5⟩ hv
          obtain ⟨q, ht, h4⟩ := List.any_eq_true.mp h4
          have hvq := hva.2.2 q ht
          refine hy v (.inr ?_) bc bs L K R M h5 h6 ⟨f1, g2, rfl, g4, f5⟩ hv
          simp only [Bool.or_eq_true, Bool.and_eq_true, beq_iff_eq, decide_eq_true_eq] at h4
          rcases h4 with ⟨h8, h9, h7⟩ | ⟨h8, h9, h10, h7⟩
          · have h11 := hvq.1 (by omega)
            rw [← h8, h11]
            split
            · rename_i e
              rw [if_pos e, decide_eq_true_eq] at h7
              omega
            · rename_i e
              rw [if_neg e, decide_eq_true_eq] at h7
              omega
          · have h11 := hvq.2 (by omega)
            have h12 : q.1 - 1000000 = hc.2.1.2.2.1 := by omega
            rw [h12] at h11
            rw [if_pos h10]
            omega
        · rw [Bool.and_eq_true] at h
          obtain ⟨h3, h⟩ := h
          simp only [Bool.and_eq_true, decide_eq_true_eq, List.all_eq_true, Bool.not_eq_true', beq_eq_false_iff_ne, ne_eq] at h3
          obtain ⟨h4, h5, h6, h7⟩ := h3
          -- by the counter
          have key : ∀ (m : Nat) (v : Int) (bc' bs' : Nat) (L : gm_L) (K : gm_K) (R : gm_R) (M : gm_M), (if c.2.2.2.2 = true then a0.2.1 - v else v - a0.1) < m → bc ≤ bc' → bs ≤ bs' → ck_St O σ W n0 K0 R0 M0 c.1 [] c.2.1 L [] n K R M → ck_lv c.2.2.2.1 L M v → gm_Wp X LX d bc' bs' mi pc L [] n K R M (ck_Q O σ0 W n0 K0 R0 M0 outs) := by
            intro m
            induction m with
            | zero =>
              intro v bc' bs' L K R M hm _ _ hS hv
              exfalso
              obtain ⟨w, w1, w2, w3⟩ := ck_loc_s hS.1 hS.2.1 hS.2.2.2.1 ha0
              have := ck_lv_eq w1 hv
              subst this
              have := w3.1
              have := w3.2.1
              split at hm <;> omega
            | succ m ihm =>
              intro v bc' bs' L K R M hm hb1 hb2 hS hv
              refine gm_Wp_wk (Nat.le_refl _) hb1 hb2 ?_
              obtain ⟨e1, e2, e3, e4, e5⟩ := hS
              have hsv : ck_us σ c.2.2.1 v c.2.2.1 = v := by unfold ck_us; rw [if_pos rfl]
              obtain ⟨b1, b2⟩ := ck_b_s e1 (s := c.2.2.1) h4.2 ((ck_nL_s (v := v) h6).mpr e2) ((ck_nF_s (v := v) h7).mpr e4) ha0 hv hsv
              refine ih true ((pc, c, bc, bs, n) :: ch) bc bs pc _ [] n _ (ck_us σ c.2.2.1 v) L [] K R M (fun s hs2 => ?_) (fun hc hm2 => ?_) ⟨e1, b1, rfl, b2, e5⟩ h
              · unfold ck_us
                rw [if_neg (by omega)]
                exact hs s hs2
              · rcases List.mem_cons.mp hm2 with rfl | hm2
                · refine ⟨hlk, ?_⟩
                  intro v' hv' bc'' bs'' L' K' R' M' a1 a2 a3 a4
                  obtain ⟨d1, d2, d3, d4, d5⟩ := a3
                  refine ihm v' bc'' bs'' L' K' R' M' ?_ a1 a2 ⟨d1, (ck_nL_s h6).mp d2, rfl, (ck_nF_s h7).mp d4, d5⟩ a4
                  dsimp only at hv'
                  replace hv' := hv'.resolve_left (by have := h4.1; have := h4.2; omega)
                  rw [hsv] at hv'
                  split at hm
                  · rename_i e
                    rw [if_pos e] at hv' ⊢
                    omega
                  · rename_i e
                    rw [if_neg e] at hv' ⊢
                    omega
                · obtain ⟨c1, c2⟩ := hch hc hm2
                  obtain ⟨c3, c4, c5⟩ := h5 hc hm2
                  exact ⟨c1, ck_Hy_us c3 c4 c5 c2⟩
          exact key ((if c.2.2.2.2 = true then a0.2.1 - v else v - a0.1).toNat + 1) v bc bs L K R M (by omega) (Nat.le_refl _) (Nat.le_refl _) ⟨f1, g2, rfl, g4, f5⟩ hv
      · cases h
theorem ck_ent : ∀ {as : List ck_A} {vs : List gm_V}, ck_gas σ as vs → as.length = vs.length ∧ ∀ (j : Nat) (b : ck_A), as[j]? = some b → ∃ u, vs[j]? = some u ∧ ck_ga σ b u := by
  intro as
  induction as with
  | nil => intro vs h; cases h; exact ⟨rfl, fun j b hb => by simp at hb⟩
  | cons a as ih =>
    intro vs h
    obtain ⟨v, ws, rfl, h1, h2⟩ := h
    obtain ⟨h3, h4⟩ := ih h2
    refine ⟨by simp [h3], fun j b hb => ?_⟩
    cases j with
    | zero =>
      simp only [List.getElem?_cons_zero, Option.some.injEq] at hb ⊢
      subst hb
      exact ⟨v, rfl, h1⟩
    | succ j =>
      simp only [List.getElem?_cons_succ] at hb ⊢
      exact h4 j b hb
/-- A METHOD that the checker has seen -/
theorem ck_ok_s {cuts : List (Nat × ck_C)} {f : Nat} {S : ck_Sum} (hE : ck_nmu O ∧ ck_OkE O X LX E) (hX : ∀ σ, ck_OkX σ X XF) (hlx : ∀ l, lx = some l → l = LX) (h : ck_ok O lx XF E mi cuts f S = true) : ck_Ok O X LX mi S := by
  intro d σ vs n K R M hd hn hvs _ hF hf
  unfold ck_ok at h
  simp only [Bool.and_eq_true, decide_eq_true_eq] at h
  obtain ⟨⟨h2, hcu⟩, h3⟩ := h
  subst hn
  obtain ⟨g1, g2⟩ := ck_ent hvs
  refine gm_Wp_wk hd (Nat.le_refl _) (Nat.le_refl _) (ck_go_s (σ0 := σ) hcu hE hX hlx f false [] _ _ 0 _ [] _ _ σ _ [] K R M (fun _ _ => rfl) (fun _ hm => nomatch hm) ⟨hF, ⟨?_, fun j b hb => ?_⟩, rfl, hf, ck_fr_0⟩ h3)
  · unfold gm_ent
    simp [g1]
  · unfold gm_ent
    rw [List.getElem?_append] at hb ⊢
    simp only [List.length_map] at hb ⊢
    split at hb
    · rename_i e
      rw [if_pos (by rw [← g1]; exact e)]
      rw [List.getElem?_map] at hb ⊢
      cases hq : S.2.2.1[j]? with
      | none => rw [hq] at hb; cases hb
      | some b' =>
        rw [hq] at hb
        cases hb
        obtain ⟨u, h4, h5⟩ := g2 j b hq
        exact ⟨u, by rw [h4]; rfl, h5⟩
    · exfalso
      have := List.mem_of_getElem? hb
      rw [List.mem_replicate] at this
      cases this.2
end CG
end
/-! 27.ce -/
section
/-! THE CHECKER: what its rows are put together with. -/
section CE
variable {O : gm_Or} {X : Int → Int} {LX : Nat}
theorem ck_S0 {mj : Nat} : ∀ S ∈ ([] : List ck_Sum), ck_Ok O X LX mj S := fun _ h => nomatch h
theorem ck_S1 {mj : Nat} {S : ck_Sum} {l : List ck_Sum} (h : ck_Ok O X LX mj S) (t : ∀ S ∈ l, ck_Ok O X LX mj S) : ∀ S' ∈ S :: l, ck_Ok O X LX mj S' := fun S' hm => (List.mem_cons.mp hm).elim (fun e => by rw [e]; exact h) (t S')
theorem ck_E0 : ck_OkE O X LX [] := fun _ _ h => nomatch h
theorem ck_E1 {mj : Nat} {l : List ck_Sum} {E : List (Nat × List ck_Sum)} (h : ∀ S ∈ l, ck_Ok O X LX mj S) (t : ck_OkE O X LX E) : ck_OkE O X LX ((mj, l) :: E) := by
  intro mj' l' he
  rw [List.lookup_cons] at he
  by_cases e : mj' = mj
  · subst e
    rw [beq_self_eq_true] at he
    cases he
    exact h
  · rw [beq_false_of_ne e] at he
    exact t mj' l' he
theorem ck_X0 : ∀ σ, ck_OkX σ X [] := fun _ _ h => nomatch h
theorem ck_l0 : ∀ l, (none : Option Nat) = some l → l = LX := fun _ h => nomatch h
theorem ck_okq {E : List (Nat × List ck_Sum)} {mi : Nat} {cuts : List (Nat × ck_C)} {f : Nat} {S : ck_Sum} (hE : ck_nmu O ∧ ck_OkE O X LX E) (h : ck_ok O none [] E mi cuts f S = true) : ck_Ok O X LX mi S := ck_ok_s hE ck_X0 ck_l0 h
end CE
/-! WHAT NEVER CHANGES, as a table: kind and length, references, types; sixteen cells a row. -/
noncomputable abbrev ck_TT : Type := List (List (Option ((Nat × Nat) × List (Int × Nat) × List (Int × Int × Int × Int))))
noncomputable def ck_tab (T : ck_TT) (k : Nat) : Option ((Nat × Nat) × List (Int × Nat) × List (Int × Int × Int × Int)) := match fl_nth T (k / 16) with
  | some r => (match fl_nth r (k % 16) with
    | some e => e
    | none => none)
  | none => none
/-- of the table, with what is written by hand: stretches that nothing writes, what is said of them, names, counted cells -/
noncomputable def ck_OG (T : ck_TT) (fp : Nat → List (Int × Int)) (J : gm_JJ) (nm : List (Nat × Nat × Int)) (gh : Option (Nat × Int × Int)) (hJ : gm_hP fp J gh) : gm_Or := (fun k => match ck_tab T k with
  | some e => some e.1
  | none => none, fun k j => match ck_tab T k with
  | some e => fl_lki j e.2.1
  | none => none, ⟨(fun k => match ck_tab T k with
    | some e => e.2.2
    | none => [], fp, J, nm, gh), hJ⟩)
noncomputable def ck_OT (T : ck_TT) (fp : Nat → List (Int × Int)) (J : gm_JJ) (nm : List (Nat × Nat × Int)) (hJ : ∀ (K K' : gm_K) (M M' : gm_M), (∀ k r, r ∈ fp k → K' k = K k) → (∀ k r, r ∈ fp k → ∀ j, r.1 ≤ j → j ≤ r.2 → M' k j = M k j) → J K M → J K' M') : gm_Or := ck_OG T fp J nm none ⟨hJ, fun _ h => nomatch h⟩
end
/-! 28.sp -/
section
/-! CUTS SHOWN ONE BEHIND ANOTHER: each is walked once, those shown ahead of it are stops (names from 2000000 on). -/
noncomputable def ck_stp (O : gm_Or) (E : List (Nat × List ck_Sum)) (mi d n0 : Nat) (W : List (Nat × Int × Int) × List (Nat × Int)) (outs : List ck_Oc) (cuts : List (Nat × ck_C)) (f : Nat) : List ck_H → List ck_H → Bool
  | [], _ => true
  | h :: r, done => ck_go O none [] E mi d n0 W outs cuts f true done h.2.2.1 h.2.2.2.1 h.1 h.2.1.1 [] h.2.2.2.2 h.2.1.2.1 && ck_stp O E mi d n0 W outs cuts f r (h :: done)
noncomputable def ck_okp (O : gm_Or) (E : List (Nat × List ck_Sum)) (mi : Nat) (cuts : List (Nat × ck_C)) (l : List ck_H) (f : Nat) (S : ck_Sum) : Bool :=
  ((decide (S.2.2.1.length ≤ gm_ml mi) && ck_cu (l.map (fun h => (h.1, h.2.1)) ++ cuts)) && ck_stp O E mi S.1.1 S.2.1 S.2.2.2.2.1 S.2.2.2.2.2 (l.map (fun h => (h.1, h.2.1)) ++ cuts) f l []) && (ck_go O none [] E mi S.1.1 S.2.1 S.2.2.2.2.1 S.2.2.2.2.2 (l.map (fun h => (h.1, h.2.1)) ++ cuts) f false l S.1.2.1 S.1.2.2 0 (S.2.2.1.map some ++ List.replicate (gm_ml mi - S.2.2.1.length) none) [] S.2.1 S.2.2.2.1)
section SP
variable {O : gm_Or} {X : Int → Int} {LX : Nat} {E : List (Nat × List ck_Sum)} {mi d n0 : Nat} {W : List (Nat × Int × Int) × List (Nat × Int)} {outs : List ck_Oc} {σ σ0 : Nat → Int} {K0 : gm_K} {R0 : gm_R} {M0 : gm_M}
theorem ck_stp_s {cuts : List (Nat × ck_C)} {f : Nat} (hcu : ck_cu cuts = true) (hE : ck_nmu O ∧ ck_OkE O X LX E) : ∀ (l done : List ck_H), (∀ h ∈ l, (h.1, h.2.1) ∈ cuts) → (∀ h ∈ done, (h.1, h.2.1) ∈ cuts ∧ ∀ σ : Nat → Int, (∀ s, s < 100 → σ s = σ0 s) → ck_Hy O X LX mi d W n0 K0 R0 M0 (ck_Q O σ0 W n0 K0 R0 M0 outs) σ h) → ck_stp O E mi d n0 W outs cuts f l done = true → ∀ h ∈ l, (h.1, h.2.1) ∈ cuts ∧ ∀ σ : Nat → Int, (∀ s, s < 100 → σ s = σ0 s) → ck_Hy O X LX mi d W n0 K0 R0 M0 (ck_Q O σ0 W n0 K0 R0 M0 outs) σ h := by
  intro l
  induction l with
  | nil => intro done _ _ _ h hm; cases hm
  | cons h0 r ih =>
    intro done hl hd hs h hm
    unfold ck_stp at hs
    rw [Bool.and_eq_true] at hs
    have key : (h0.1, h0.2.1) ∈ cuts ∧ ∀ σ : Nat → Int, (∀ s, s < 100 → σ s = σ0 s) → ck_Hy O X LX mi d W n0 K0 R0 M0 (ck_Q O σ0 W n0 K0 R0 M0 outs) σ h0 := by
      refine ⟨hl h0 List.mem_cons_self, fun σ hσ v _ bc bs L K R M hb1 hb2 hS _ => ?_⟩
      exact gm_Wp_wk (Nat.le_refl _) hb1 hb2 (ck_go_s (σ0 := σ0) hcu hE ck_X0 ck_l0 f true done _ _ _ _ [] _ _ σ L [] K R M hσ (fun z hz => ⟨(hd z hz).1, (hd z hz).2 σ hσ⟩) hS hs.1)
    rcases List.mem_cons.mp hm with rfl | hm
    · exact key
    · refine ih (h0 :: done) (fun z hz => hl z (List.mem_cons_of_mem _ hz)) (fun z hz => ?_) hs.2 h hm
      rcases List.mem_cons.mp hz with rfl | hz
      · exact key
      · exact hd z hz
theorem ck_okp_s {cuts : List (Nat × ck_C)} {l : List ck_H} {f : Nat} {S : ck_Sum} (hE : ck_nmu O ∧ ck_OkE O X LX E) (h : ck_okp O E mi cuts l f S = true) : ck_Ok O X LX mi S := by
  intro d σ vs n K R M hd hn hvs _ hF hf
  unfold ck_okp at h
  simp only [Bool.and_eq_true, decide_eq_true_eq] at h
  obtain ⟨⟨⟨h2, hcu⟩, hst⟩, h3⟩ := h
  subst hn
  obtain ⟨g1, g2⟩ := ck_ent hvs
  have hl : ∀ h ∈ l, (h.1, h.2.1) ∈ l.map (fun h => (h.1, h.2.1)) ++ cuts := fun h hm => List.mem_append_left _ (List.mem_map.mpr ⟨h, hm, rfl⟩)
  have hch := ck_stp_s (σ0 := σ) (K0 := K) (R0 := R) (M0 := M) hcu hE l [] hl (fun _ hz => nomatch hz) hst
  refine gm_Wp_wk hd (Nat.le_refl _) (Nat.le_refl _) (ck_go_s (σ0 := σ) hcu hE ck_X0 ck_l0 f false l _ _ 0 _ [] _ _ σ _ [] K R M (fun _ _ => rfl) (fun z hz => ⟨(hch z hz).1, (hch z hz).2 σ (fun _ _ => rfl)⟩) ⟨hF, ⟨?_, fun j b hb => ?_⟩, rfl, hf, ck_fr_0⟩ h3)
  · unfold gm_ent
    simp [g1]
  · unfold gm_ent
    rw [List.getElem?_append] at hb ⊢
    simp only [List.length_map] at hb ⊢
    split at hb
    · rename_i e
      rw [if_pos (by rw [← g1]; exact e)]
      rw [List.getElem?_map] at hb ⊢
      cases hq : S.2.2.1[j]? with
      | none => rw [hq] at hb; cases hb
      | some b' =>
        rw [hq] at hb
        cases hb
        obtain ⟨u, h4, h5⟩ := g2 j b hq
        exact ⟨u, by rw [h4]; rfl, h5⟩
    · exfalso
      have := List.mem_of_getElem? hb
      rw [List.mem_replicate] at this
      cases this.2
end SP
/-- one of them by itself: those ahead of it are stops -/
noncomputable def ck_stpi (O : gm_Or) (E : List (Nat × List ck_Sum)) (mi d n0 : Nat) (W : List (Nat × Int × Int) × List (Nat × Int)) (outs : List ck_Oc) (cuts : List (Nat × ck_C)) (f : Nat) (l : List ck_H) (i : Nat) : Bool := match l.drop i with
  | [] => true
  | h :: _ => ck_go O none [] E mi d n0 W outs cuts f true (l.take i).reverse h.2.2.1 h.2.2.2.1 h.1 h.2.1.1 [] h.2.2.2.2 h.2.1.2.1
section SPI
variable {O : gm_Or} {X : Int → Int} {LX : Nat} {E : List (Nat × List ck_Sum)} {mi d n0 : Nat} {W : List (Nat × Int × Int) × List (Nat × Int)} {outs : List ck_Oc}
theorem ck_stpi_s {cuts : List (Nat × ck_C)} {f : Nat} {l : List ck_H} (h : ∀ i, i < l.length → ck_stpi O E mi d n0 W outs cuts f l i = true) : ∀ (r done : List ck_H), l = done.reverse ++ r → ck_stp O E mi d n0 W outs cuts f r done = true := by
  intro r
  induction r with
  | nil => intro done _; rfl
  | cons a r ih =>
    intro done e
    have h1 := h done.length (by rw [e]; simp)
    unfold ck_stpi at h1
    rw [e, List.drop_left' (by simp), List.take_left' (by simp), List.reverse_reverse] at h1
    unfold ck_stp
    rw [Bool.and_eq_true]
    exact ⟨h1, ih (a :: done) (by rw [e]; simp)⟩
theorem ck_okp_i {cuts : List (Nat × ck_C)} {l : List ck_H} {f : Nat} {S : ck_Sum} (hE : ck_nmu O ∧ ck_OkE O X LX E) (h1 : (decide (S.2.2.1.length ≤ gm_ml mi) && ck_cu (l.map (fun h => (h.1, h.2.1)) ++ cuts)) = true) (h2 : ∀ i, i < l.length → ck_stpi O E mi S.1.1 S.2.1 S.2.2.2.2.1 S.2.2.2.2.2 (l.map (fun h => (h.1, h.2.1)) ++ cuts) f l i = true) (h3 : ck_go O none [] E mi S.1.1 S.2.1 S.2.2.2.2.1 S.2.2.2.2.2 (l.map (fun h => (h.1, h.2.1)) ++ cuts) f false l S.1.2.1 S.1.2.2 0 (S.2.2.1.map some ++ List.replicate (gm_ml mi - S.2.2.1.length) none) [] S.2.1 S.2.2.2.1 = true) : ck_Ok O X LX mi S := by
  refine ck_okp_s (cuts := cuts) (l := l) (f := f) hE ?_
  unfold ck_okp
  rw [h1, h3, ck_stpi_s h2 l [] rfl]
  rfl
end SPI
end
/-! 29.ja -/
section
/-! WHAT IS SAID OF MEMORY that bounds of single numbers do not say: how many letters are opened, to whom they go, the texts of the law. -/
noncomputable def jcn (f : Int → Int) : Nat → Nat
  | 0 => 0
  | m + 1 => jcn f m + (if f (124 + 7 * (m : Int)) < 0 then 1 else 0)
/-- opened and not opened are no more than there are; what is from somebody goes to somebody -/
noncomputable def jO (f : Int → Int) : Prop := f 14 + (jcn f 24 : Int) ≤ f 4 ∧ ∀ l : Nat, l < 24 → 0 ≤ f (119 + 7 * (l : Int)) → 0 ≤ f (120 + 7 * (l : Int))
/-- a step with g numbers laid by leaves g' -/
noncomputable def jS (k g g' : Int) : Prop := (k ≤ 10 → 0 ≤ g ∧ g' = g + 1) ∧ (k = 14 → 1 ≤ g ∧ g' = g) ∧ (10 < k → ¬ k = 14 → 2 ≤ g ∧ g' = g - 1)
/-- a text of lines; each line's steps can be reckoned -/
noncomputable def jT (f : Int → Int) : Prop := ∀ n : Int, 0 ≤ n → n < 12 → n < f 0 → (0 ≤ f (3 + 4 * n) ∧ f (3 + 4 * n) ≤ f (4 + 4 * n) ∧ f (4 + 4 * n) ≤ 400) ∧ ∃ G : Int → Int, G (f (3 + 4 * n)) = 0 ∧ ∀ i, f (3 + 4 * n) ≤ i → i < f (4 + 4 * n) → jS (f (49 + 2 * i)) (G i) (G (i + 1))
/-- what is remembered keeps these types -/
noncomputable def jA (t : List (Int × Int × Int × Int)) (f : Int → Int) : Prop := ∀ y : Int, 0 ≤ y → y < 12 → ∀ r ∈ t, ∀ j, r.1 ≤ j → j ≤ r.2.1 → 0 ≤ j → j < 395 → (-2147483648 ≤ f (395 * y + j) ∧ f (395 * y + j) < 2147483648) ∧ r.2.2.1 ≤ f (395 * y + j) ∧ f (395 * y + j) ≤ r.2.2.2
noncomputable def jP (t : List (Int × Int × Int × Int)) (f7 f8 f9 fA : Int → Int) : Prop := (jO f7 ∧ jO f8 ∧ jO f9 ∧ ∀ y : Int, 0 ≤ y → y < 12 → jO (fun j => fA (395 * y + j))) ∧ jA t fA ∧ jT (fun j => f7 (395 + j)) ∧ jT (fun j => f8 (395 + j)) ∧ jT (fun j => f9 (395 + j))
theorem jcn_cg {f g : Int → Int} : ∀ m : Nat, (∀ l : Nat, l < m → g (124 + 7 * (l : Int)) = f (124 + 7 * (l : Int))) → jcn g m = jcn f m := by
  intro m
  induction m with
  | zero => intro _; rfl
  | succ m ih =>
    intro h
    show jcn g m + (if g (124 + 7 * (m : Int)) < 0 then 1 else 0) = jcn f m + (if f (124 + 7 * (m : Int)) < 0 then 1 else 0)
    rw [ih (fun l hl => h l (by omega)), h m (by omega)]
theorem jcn_up {f g : Int → Int} {l0 : Nat} : ∀ m : Nat, (∀ l : Nat, l < m → ¬ l = l0 → g (124 + 7 * (l : Int)) = f (124 + 7 * (l : Int))) → jcn g m ≤ jcn f m + 1 := by
  intro m
  induction m with
  | zero => intro _; exact Nat.zero_le _
  | succ m ih =>
    intro h
    show jcn g m + (if g (124 + 7 * (m : Int)) < 0 then 1 else 0) ≤ jcn f m + (if f (124 + 7 * (m : Int)) < 0 then 1 else 0) + 1
    by_cases e : m = l0
    · have := jcn_cg (f := f) (g := g) m (fun l hl => h l (by omega) (by omega))
      rw [this]
      split <;> split <;> omega
    · have := ih (fun l hl hne => h l (by omega) hne)
      rw [h m (by omega) e]
      omega
theorem jcn_dn {f g : Int → Int} {l0 : Nat} (h0 : f (124 + 7 * (l0 : Int)) < 0) (h1 : 0 ≤ g (124 + 7 * (l0 : Int))) : ∀ m : Nat, l0 < m → (∀ l : Nat, l < m → ¬ l = l0 → g (124 + 7 * (l : Int)) = f (124 + 7 * (l : Int))) → jcn g m + 1 = jcn f m := by
  intro m
  induction m with
  | zero => intro hl _; omega
  | succ m ih =>
    intro hl h
    show jcn g m + (if g (124 + 7 * (m : Int)) < 0 then 1 else 0) + 1 = jcn f m + (if f (124 + 7 * (m : Int)) < 0 then 1 else 0)
    by_cases e : m = l0
    · subst e
      have := jcn_cg (f := f) (g := g) m (fun l hl => h l (by omega) (by omega))
      rw [this, if_neg (by omega), if_pos h0]
    · have := ih (by omega) (fun l hl hne => h l (by omega) hne)
      rw [h m (by omega) e]
      omega
theorem jcn_pos {f : Int → Int} {l0 : Nat} (h0 : f (124 + 7 * (l0 : Int)) < 0) : ∀ m : Nat, l0 < m → 1 ≤ jcn f m := by
  intro m
  induction m with
  | zero => intro hl; omega
  | succ m ih =>
    intro hl
    show 1 ≤ jcn f m + (if f (124 + 7 * (m : Int)) < 0 then 1 else 0)
    by_cases e : m = l0
    · subst e
      rw [if_pos h0]
      omega
    · have := ih (by omega)
      omega
theorem jO_cg {f g : Int → Int} (h4 : g 4 = f 4) (h14 : g 14 = f 14) (h : ∀ l : Nat, l < 24 → g (119 + 7 * (l : Int)) = f (119 + 7 * (l : Int)) ∧ g (120 + 7 * (l : Int)) = f (120 + 7 * (l : Int)) ∧ g (124 + 7 * (l : Int)) = f (124 + 7 * (l : Int))) (hf : jO f) : jO g := by
  refine ⟨?_, fun l hl h1 => ?_⟩
  · rw [jcn_cg (f := f) (g := g) 24 (fun l hl => (h l hl).2.2), h4, h14]
    exact hf.1
  · rw [(h l hl).1] at h1
    rw [(h l hl).2.1]
    exact hf.2 l hl h1
theorem jO_cg2 {f g : Int → Int} (h : ∀ j, 0 ≤ j → j < 395 → g j = f j) (hf : jO f) : jO g := jO_cg (h 4 (by decide) (by decide)) (h 14 (by decide) (by decide)) (fun l hl => ⟨h _ (by omega) (by omega), h _ (by omega) (by omega), h _ (by omega) (by omega)⟩) hf
theorem jT_cg {f g : Int → Int} (h : ∀ j, 0 ≤ j → j < 849 → g j = f j) (hf : jT f) : jT g := by
  intro n h1 h2 h3
  rw [h 0 (by decide) (by decide)] at h3
  obtain ⟨⟨a1, a2, a3⟩, G, a4, a5⟩ := hf n h1 h2 h3
  rw [h (3 + 4 * n) (by omega) (by omega), h (4 + 4 * n) (by omega) (by omega)]
  refine ⟨⟨a1, a2, a3⟩, G, a4, fun i h4 h5 => ?_⟩
  rw [h (49 + 2 * i) (by omega) (by omega)]
  exact a5 i h4 h5
theorem jA_cg {t : List (Int × Int × Int × Int)} {f g : Int → Int} (h : ∀ j, 0 ≤ j → j < 4740 → g j = f j) (hf : jA t f) : jA t g := by
  intro y y1 y2 r hr j h1 h2 h3 h4
  rw [h (395 * y + j) (by omega) (by omega)]
  exact hf y y1 y2 r hr j h1 h2 h3 h4
noncomputable def j_fp (k : Nat) : List (Int × Int) := if k = 227 then [(4, 4), (14, 14), (395, 1243), (119, 120), (124, 124), (126, 127), (131, 131), (133, 134), (138, 138), (140, 141), (145, 145), (147, 148), (152, 152), (154, 155), (159, 159), (161, 162), (166, 166), (168, 169), (173, 173), (175, 176), (180, 180), (182, 183), (187, 187), (189, 190), (194, 194), (196, 197), (201, 201), (203, 204), (208, 208), (210, 211), (215, 215), (217, 218), (222, 222), (224, 225), (229, 229), (231, 232), (236, 236), (238, 239), (243, 243), (245, 246), (250, 250), (252, 253), (257, 257), (259, 260), (264, 264), (266, 267), (271, 271), (273, 274), (278, 278), (280, 281), (285, 285)] else if k = 228 then [(0, 1243)] else if k = 229 then [(0, 1243)] else if k = 230 then [(0, 4739)] else []
noncomputable def j_J (t : List (Int × Int × Int × Int)) (_ : gm_K) (M : gm_M) : Prop := jP t (M 227) (M 228) (M 229) (M 230)
theorem j_fpm : (List.range 24).all (fun l => decide ((119 + 7 * (l : Int), 120 + 7 * (l : Int)) ∈ j_fp 227) && decide ((124 + 7 * (l : Int), 124 + 7 * (l : Int)) ∈ j_fp 227)) = true := by decide +kernel
theorem j_h {t : List (Int × Int × Int × Int)} : ∀ (K K' : gm_K) (M M' : gm_M), (∀ k r, r ∈ j_fp k → K' k = K k) → (∀ k r, r ∈ j_fp k → ∀ j, r.1 ≤ j → j ≤ r.2 → M' k j = M k j) → j_J t K M → j_J t K' M' := by
  intro _ _ M M' _ h hJ
  obtain ⟨⟨o7, o8, o9, oA⟩, tA, t7, t8, t9⟩ := hJ
  have h8 : ∀ j, 0 ≤ j → j < 1244 → M' 228 j = M 228 j := fun j h1 h2 => h 228 (0, 1243) (by decide) j h1 (by dsimp only; omega)
  have h9 : ∀ j, 0 ≤ j → j < 1244 → M' 229 j = M 229 j := fun j h1 h2 => h 229 (0, 1243) (by decide) j h1 (by dsimp only; omega)
  have hA : ∀ j, 0 ≤ j → j < 4740 → M' 230 j = M 230 j := fun j h1 h2 => h 230 (0, 4739) (by decide) j h1 (by dsimp only; omega)
  have h7 : ∀ j, 395 ≤ j → j < 1244 → M' 227 j = M 227 j := fun j h1 h2 => h 227 (395, 1243) (by decide +kernel) j h1 (by dsimp only; omega)
  refine ⟨⟨jO_cg (h 227 (4, 4) (by decide +kernel) 4 (Int.le_refl _) (Int.le_refl _)) (h 227 (14, 14) (by decide +kernel) 14 (Int.le_refl _) (Int.le_refl _)) (fun l hl => ?_) o7, jO_cg2 (fun j h1 h2 => h8 j h1 (by omega)) o8, jO_cg2 (fun j h1 h2 => h9 j h1 (by omega)) o9, fun y y1 y2 => jO_cg2 (fun j h1 h2 => hA _ (by omega) (by omega)) (oA y y1 y2)⟩, jA_cg hA tA, jT_cg (fun j h1 h2 => h7 _ (by omega) (by omega)) t7, jT_cg (fun j h1 h2 => h8 _ (by omega) (by omega)) t8, jT_cg (fun j h1 h2 => h9 _ (by omega) (by omega)) t9⟩
  have h1 := List.all_eq_true.mp j_fpm l (List.mem_range.mpr hl)
  rw [Bool.and_eq_true, decide_eq_true_eq, decide_eq_true_eq] at h1
  exact ⟨h 227 _ h1.1 _ (Int.le_refl _) (by dsimp only; omega), h 227 _ h1.1 _ (by dsimp only; omega) (Int.le_refl _), h 227 _ h1.2 _ (Int.le_refl _) (Int.le_refl _)⟩
/-! how it changes -/
theorem j_image {t : List (Int × Int × Int × Int)} {f7 f8 f9 fA g : Int → Int} (h : jP t f7 f8 f9 fA) (hg : ∀ j, 0 ≤ j → j < 1244 → g j = f7 j) : jP t f7 g f9 fA := by
  obtain ⟨⟨o7, o8, o9, oA⟩, tA, t7, t8, t9⟩ := h
  exact ⟨⟨o7, jO_cg2 (fun j h1 h2 => hg j h1 (by omega)) o7, o9, oA⟩, tA, t7, jT_cg (fun j h1 h2 => hg _ (by omega) (by omega)) t7, t9⟩
theorem j_before {t : List (Int × Int × Int × Int)} {f7 f8 f9 fA g : Int → Int} (h : jP t f7 f8 f9 fA) (hg : ∀ j, 0 ≤ j → j < 1244 → g j = f7 j) : jP t f7 f8 g fA := by
  obtain ⟨⟨o7, o8, o9, oA⟩, tA, t7, t8, t9⟩ := h
  exact ⟨⟨o7, o8, jO_cg2 (fun j h1 h2 => hg j h1 (by omega)) o7, oA⟩, tA, t7, t8, jT_cg (fun j h1 h2 => hg _ (by omega) (by omega)) t7⟩
theorem j_back {t : List (Int × Int × Int × Int)} {f7 f8 f9 fA g : Int → Int} (h : jP t f7 f8 f9 fA) (hg : ∀ j, 0 ≤ j → j < 1244 → g j = f8 j) : jP t g f8 f9 fA := by
  obtain ⟨⟨o7, o8, o9, oA⟩, tA, t7, t8, t9⟩ := h
  exact ⟨⟨jO_cg2 (fun j h1 h2 => hg j h1 (by omega)) o8, o8, o9, oA⟩, tA, jT_cg (fun j h1 h2 => hg _ (by omega) (by omega)) t8, t8, t9⟩
theorem j_again {t : List (Int × Int × Int × Int)} {f7 f8 f9 fA g : Int → Int} (h : jP t f7 f8 f9 fA) (hg : ∀ j, 0 ≤ j → j < 1244 → g j = f9 j) : jP t g f8 f9 fA := by
  obtain ⟨⟨o7, o8, o9, oA⟩, tA, t7, t8, t9⟩ := h
  exact ⟨⟨jO_cg2 (fun j h1 h2 => hg j h1 (by omega)) o9, o8, o9, oA⟩, tA, jT_cg (fun j h1 h2 => hg _ (by omega) (by omega)) t9, t8, t9⟩
theorem j_law {t : List (Int × Int × Int × Int)} {f7 f8 f9 fA g : Int → Int} (h : jP t f7 f8 f9 fA) (hg : ∀ j, 0 ≤ j → j < 395 → g j = f7 j) (ht : jT (fun j => g (395 + j))) : jP t g f8 f9 fA := by
  obtain ⟨⟨o7, o8, o9, oA⟩, tA, t7, t8, t9⟩ := h
  exact ⟨⟨jO_cg2 hg o7, o8, o9, oA⟩, tA, ht, t8, t9⟩
theorem j_undo {t : List (Int × Int × Int × Int)} {f7 f8 f9 fA g : Int → Int} {y : Int} (h : jP t f7 f8 f9 fA) (hy : 0 ≤ y ∧ y < 12) (hg : ∀ j, 0 ≤ j → j < 395 → g j = fA (395 * y + j)) (hg2 : ∀ j, 395 ≤ j → j < 1244 → g j = f7 j) : jP t g f8 f9 fA := by
  obtain ⟨⟨o7, o8, o9, oA⟩, tA, t7, t8, t9⟩ := h
  exact ⟨⟨jO_cg2 (f := fun j => fA (395 * y + j)) hg (oA y hy.1 hy.2), o8, o9, oA⟩, tA, jT_cg (fun j h1 h2 => hg2 _ (by omega) (by omega)) t7, t8, t9⟩
theorem j_shift {t : List (Int × Int × Int × Int)} {f7 f8 f9 fA g : Int → Int} (h : jP t f7 f8 f9 fA) (hg : ∀ j, 0 ≤ j → j < 4345 → g j = fA (j + 395)) (hg2 : ∀ j, 4345 ≤ j → j < 4740 → g j = fA j) : jP t f7 f8 f9 g := by
  obtain ⟨⟨o7, o8, o9, oA⟩, tA, t7, t8, t9⟩ := h
  refine ⟨⟨o7, o8, o9, fun y y1 y2 => ?_⟩, fun y y1 y2 r hr j h1 h2 h3 h4 => ?_, t7, t8, t9⟩
  · by_cases e : y < 11
    · refine jO_cg2 (f := fun j => fA (395 * (y + 1) + j)) (fun j h1 h2 => ?_) (oA (y + 1) (by omega) (by omega))
      rw [hg _ (by omega) (by omega)]
      congr 1
      omega
    · exact jO_cg2 (f := fun j => fA (395 * y + j)) (fun j h1 h2 => hg2 _ (by omega) (by omega)) (oA y y1 y2)
  · by_cases e : y < 11
    · rw [hg _ (by omega) (by omega), show 395 * y + j + 395 = 395 * (y + 1) + j by omega]
      exact tA (y + 1) (by omega) (by omega) r hr j h1 h2 h3 h4
    · rw [hg2 _ (by omega) (by omega)]
      exact tA y y1 y2 r hr j h1 h2 h3 h4
theorem j_store {t : List (Int × Int × Int × Int)} {f7 f8 f9 fA g : Int → Int} {y0 : Int} (h : jP t f7 f8 f9 fA) (ht : ∀ r ∈ t, ∀ j, r.1 ≤ j → j ≤ r.2.1 → 0 ≤ j → j < 395 → (-2147483648 ≤ f7 j ∧ f7 j < 2147483648) ∧ r.2.2.1 ≤ f7 j ∧ f7 j ≤ r.2.2.2) (hg : ∀ j, 0 ≤ j → j < 395 → g (395 * y0 + j) = f7 j) (hg2 : ∀ j, ¬ (395 * y0 ≤ j ∧ j < 395 * y0 + 395) → g j = fA j) : jP t f7 f8 f9 g := by
  obtain ⟨⟨o7, o8, o9, oA⟩, tA, t7, t8, t9⟩ := h
  refine ⟨⟨o7, o8, o9, fun y y1 y2 => ?_⟩, fun y y1 y2 r hr j h1 h2 h3 h4 => ?_, t7, t8, t9⟩
  · by_cases e : y = y0
    · subst e
      exact jO_cg2 (f := f7) (fun j h1 h2 => hg j h1 h2) o7
    · exact jO_cg2 (f := fun j => fA (395 * y + j)) (fun j h1 h2 => hg2 _ (by omega)) (oA y y1 y2)
  · by_cases e : y = y0
    · subst e
      rw [hg j h3 h4]
      exact ht r hr j h1 h2 h3 h4
    · rw [hg2 _ (by omega)]
      exact tA y y1 y2 r hr j h1 h2 h3 h4
/-- something is thrown in as number l -/
theorem jO_throw {f g : Int → Int} {l0 : Nat} (hf : jO f) (h4 : g 4 = f 4 + 1) (h14 : g 14 = f 14) (hs : ∀ l : Nat, l < 24 → ¬ l = l0 → g (119 + 7 * (l : Int)) = f (119 + 7 * (l : Int)) ∧ g (120 + 7 * (l : Int)) = f (120 + 7 * (l : Int)) ∧ g (124 + 7 * (l : Int)) = f (124 + 7 * (l : Int))) (h0 : 0 ≤ g (119 + 7 * (l0 : Int)) → 0 ≤ g (120 + 7 * (l0 : Int))) : jO g := by
  refine ⟨?_, fun l hl h1 => ?_⟩
  · have h1 := jcn_up (f := f) (g := g) (l0 := l0) 24 (fun l hl hne => (hs l hl hne).2.2)
    have h2 := hf.1
    omega
  · by_cases e : l = l0
    · subst e
      exact h0 h1
    · rw [(hs l hl e).1] at h1
      rw [(hs l hl e).2.1]
      exact hf.2 l hl h1
/-- letter l is opened -/
theorem jO_open {f g : Int → Int} {l0 : Nat} (hl0 : l0 < 24) (hf : jO f) (h4 : g 4 = f 4) (h14 : g 14 = f 14 + 1) (hb : f (124 + 7 * (l0 : Int)) < 0) (hb2 : 0 ≤ g (124 + 7 * (l0 : Int))) (hs : ∀ l : Nat, l < 24 → g (119 + 7 * (l : Int)) = f (119 + 7 * (l : Int)) ∧ g (120 + 7 * (l : Int)) = f (120 + 7 * (l : Int)) ∧ (¬ l = l0 → g (124 + 7 * (l : Int)) = f (124 + 7 * (l : Int)))) : jO g := by
  refine ⟨?_, fun l hl h1 => ?_⟩
  · have h1 := jcn_dn (f := f) (g := g) hb hb2 24 hl0 (fun l hl hne => (hs l hl).2.2 hne)
    have h2 := hf.1
    omega
  · rw [(hs l hl).1] at h1
    rw [(hs l hl).2.1]
    exact hf.2 l hl h1
theorem jO_lt {f : Int → Int} {l0 : Nat} (hl0 : l0 < 24) (hf : jO f) (hb : f (124 + 7 * (l0 : Int)) < 0) : f 14 < f 4 := by
  have h1 := jcn_pos (f := f) hb 24 hl0
  have h2 := hf.1
  omega
end
/-! 30.tb -/
section
/-! WHAT ALWAYS HOLDS between the calls (laid by wip/am/p2k.py): kinds, references, types of every cell. -/
set_option maxRecDepth 100000 in
noncomputable def p2_T0 : List (Option ((Nat × Nat) × List (Int × Nat) × List (Int × Int × Int × Int))) := [none, some ((4, 0), [(0, 2), (3, 3), (4, 16), (5, 29), (7, 42), (8, 200), (9, 206), (10, 207), (11, 208), (12, 213), (13, 215), (14, 220), (16, 222), (17, 224)], [(1, 1, 0, 400), (2, 2, (-1), 400), (6, 6, 0, 1), (15, 15, 0, 1)]), some ((1, 400), [], [(0, 399, (-128), 127)]), some ((5, 0), [(9, 4), (10, 6), (11, 8), (12, 10), (13, 12), (14, 14)], [(0, 0, 1, 6), (1, 1, 10, 99), (2, 2, 0, 98), (3, 3, 0, 9), (4, 4, 0, 6), (5, 5, 0, 9999), (6, 6, 0, 299), (7, 7, (-2147483648), 2147483647)]), some ((6, 0), [(2, 5)], [(0, 0, 8, 8), (1, 1, 7, 7), (3, 3, 0, 8)]), some ((0, 56), [], [(0, 55, 0, 98)]), some ((6, 0), [(2, 7)], [(0, 0, 8, 8), (1, 1, 3, 3), (3, 3, 0, 8)]), some ((0, 24), [], [(0, 23, 0, 299)]), some ((6, 0), [(2, 9)], [(0, 0, 8, 8), (1, 1, 3, 3), (3, 3, 0, 8)]), some ((0, 24), [], [(0, 23, (-1), 98)]), some ((6, 0), [(2, 11)], [(0, 0, 24, 24), (1, 1, 7, 7), (3, 3, 0, 24)]), some ((0, 168), [], [(0, 167, (-1), 299)]), some ((6, 0), [(2, 13)], [(0, 1, 6, 6), (3, 3, 0, 6)]), some ((0, 36), [], [(0, 35, 0, 20)]), some ((6, 0), [(2, 15)], [(0, 0, 24, 24), (1, 1, 3, 3), (3, 3, 0, 24)]), some ((0, 72), [], [(0, 71, (-1), 299)])]
set_option maxRecDepth 100000 in
noncomputable def p2_T1 : List (Option ((Nat × Nat) × List (Int × Nat) × List (Int × Int × Int × Int))) := [some ((5, 0), [(9, 17), (10, 19), (11, 21), (12, 23), (13, 25), (14, 27)], [(0, 0, 1, 6), (1, 1, 10, 99), (2, 2, 0, 98), (3, 3, 0, 9), (4, 4, 0, 6), (5, 5, 0, 9999), (6, 6, 0, 299), (7, 7, (-2147483648), 2147483647)]), some ((6, 0), [(2, 18)], [(0, 0, 8, 8), (1, 1, 7, 7), (3, 3, 0, 8)]), some ((0, 56), [], [(0, 55, 0, 98)]), some ((6, 0), [(2, 20)], [(0, 0, 8, 8), (1, 1, 3, 3), (3, 3, 0, 8)]), some ((0, 24), [], [(0, 23, 0, 299)]), some ((6, 0), [(2, 22)], [(0, 0, 8, 8), (1, 1, 3, 3), (3, 3, 0, 8)]), some ((0, 24), [], [(0, 23, (-1), 98)]), some ((6, 0), [(2, 24)], [(0, 0, 24, 24), (1, 1, 7, 7), (3, 3, 0, 24)]), some ((0, 168), [], [(0, 167, (-1), 299)]), some ((6, 0), [(2, 26)], [(0, 1, 6, 6), (3, 3, 0, 6)]), some ((0, 36), [], [(0, 35, 0, 20)]), some ((6, 0), [(2, 28)], [(0, 0, 24, 24), (1, 1, 3, 3), (3, 3, 0, 24)]), some ((0, 72), [], [(0, 71, (-1), 299)]), some ((5, 0), [(9, 30), (10, 32), (11, 34), (12, 36), (13, 38), (14, 40)], [(0, 0, 1, 6), (1, 1, 10, 99), (2, 2, 0, 98), (3, 3, 0, 9), (4, 4, 0, 6), (5, 5, 0, 9999), (6, 6, 0, 299), (7, 7, (-2147483648), 2147483647)]), some ((6, 0), [(2, 31)], [(0, 0, 8, 8), (1, 1, 7, 7), (3, 3, 0, 8)]), some ((0, 56), [], [(0, 55, 0, 98)])]
set_option maxRecDepth 100000 in
noncomputable def p2_T2 : List (Option ((Nat × Nat) × List (Int × Nat) × List (Int × Int × Int × Int))) := [some ((6, 0), [(2, 33)], [(0, 0, 8, 8), (1, 1, 3, 3), (3, 3, 0, 8)]), some ((0, 24), [], [(0, 23, 0, 299)]), some ((6, 0), [(2, 35)], [(0, 0, 8, 8), (1, 1, 3, 3), (3, 3, 0, 8)]), some ((0, 24), [], [(0, 23, (-1), 98)]), some ((6, 0), [(2, 37)], [(0, 0, 24, 24), (1, 1, 7, 7), (3, 3, 0, 24)]), some ((0, 168), [], [(0, 167, (-1), 299)]), some ((6, 0), [(2, 39)], [(0, 1, 6, 6), (3, 3, 0, 6)]), some ((0, 36), [], [(0, 35, 0, 20)]), some ((6, 0), [(2, 41)], [(0, 0, 24, 24), (1, 1, 3, 3), (3, 3, 0, 24)]), some ((0, 72), [], [(0, 71, (-1), 299)]), some ((7, 0), [(0, 43)], [(1, 2, 0, 12)]), some ((3, 12), [(0, 44), (1, 57), (2, 70), (3, 83), (4, 96), (5, 109), (6, 122), (7, 135), (8, 148), (9, 161), (10, 174), (11, 187)], []), some ((5, 0), [(9, 45), (10, 47), (11, 49), (12, 51), (13, 53), (14, 55)], [(0, 0, 1, 6), (1, 1, 10, 99), (2, 2, 0, 98), (3, 3, 0, 9), (4, 4, 0, 6), (5, 5, 0, 9999), (6, 6, 0, 299), (7, 7, (-2147483648), 2147483647)]), some ((6, 0), [(2, 46)], [(0, 0, 8, 8), (1, 1, 7, 7), (3, 3, 0, 8)]), some ((0, 56), [], [(0, 55, 0, 98)]), some ((6, 0), [(2, 48)], [(0, 0, 8, 8), (1, 1, 3, 3), (3, 3, 0, 8)])]
set_option maxRecDepth 100000 in
noncomputable def p2_T3 : List (Option ((Nat × Nat) × List (Int × Nat) × List (Int × Int × Int × Int))) := [some ((0, 24), [], [(0, 23, 0, 299)]), some ((6, 0), [(2, 50)], [(0, 0, 8, 8), (1, 1, 3, 3), (3, 3, 0, 8)]), some ((0, 24), [], [(0, 23, (-1), 98)]), some ((6, 0), [(2, 52)], [(0, 0, 24, 24), (1, 1, 7, 7), (3, 3, 0, 24)]), some ((0, 168), [], [(0, 167, (-1), 299)]), some ((6, 0), [(2, 54)], [(0, 1, 6, 6), (3, 3, 0, 6)]), some ((0, 36), [], [(0, 35, 0, 20)]), some ((6, 0), [(2, 56)], [(0, 0, 24, 24), (1, 1, 3, 3), (3, 3, 0, 24)]), some ((0, 72), [], [(0, 71, (-1), 299)]), some ((5, 0), [(9, 58), (10, 60), (11, 62), (12, 64), (13, 66), (14, 68)], [(0, 0, 1, 6), (1, 1, 10, 99), (2, 2, 0, 98), (3, 3, 0, 9), (4, 4, 0, 6), (5, 5, 0, 9999), (6, 6, 0, 299), (7, 7, (-2147483648), 2147483647)]), some ((6, 0), [(2, 59)], [(0, 0, 8, 8), (1, 1, 7, 7), (3, 3, 0, 8)]), some ((0, 56), [], [(0, 55, 0, 98)]), some ((6, 0), [(2, 61)], [(0, 0, 8, 8), (1, 1, 3, 3), (3, 3, 0, 8)]), some ((0, 24), [], [(0, 23, 0, 299)]), some ((6, 0), [(2, 63)], [(0, 0, 8, 8), (1, 1, 3, 3), (3, 3, 0, 8)]), some ((0, 24), [], [(0, 23, (-1), 98)])]
set_option maxRecDepth 100000 in
noncomputable def p2_T4 : List (Option ((Nat × Nat) × List (Int × Nat) × List (Int × Int × Int × Int))) := [some ((6, 0), [(2, 65)], [(0, 0, 24, 24), (1, 1, 7, 7), (3, 3, 0, 24)]), some ((0, 168), [], [(0, 167, (-1), 299)]), some ((6, 0), [(2, 67)], [(0, 1, 6, 6), (3, 3, 0, 6)]), some ((0, 36), [], [(0, 35, 0, 20)]), some ((6, 0), [(2, 69)], [(0, 0, 24, 24), (1, 1, 3, 3), (3, 3, 0, 24)]), some ((0, 72), [], [(0, 71, (-1), 299)]), some ((5, 0), [(9, 71), (10, 73), (11, 75), (12, 77), (13, 79), (14, 81)], [(0, 0, 1, 6), (1, 1, 10, 99), (2, 2, 0, 98), (3, 3, 0, 9), (4, 4, 0, 6), (5, 5, 0, 9999), (6, 6, 0, 299), (7, 7, (-2147483648), 2147483647)]), some ((6, 0), [(2, 72)], [(0, 0, 8, 8), (1, 1, 7, 7), (3, 3, 0, 8)]), some ((0, 56), [], [(0, 55, 0, 98)]), some ((6, 0), [(2, 74)], [(0, 0, 8, 8), (1, 1, 3, 3), (3, 3, 0, 8)]), some ((0, 24), [], [(0, 23, 0, 299)]), some ((6, 0), [(2, 76)], [(0, 0, 8, 8), (1, 1, 3, 3), (3, 3, 0, 8)]), some ((0, 24), [], [(0, 23, (-1), 98)]), some ((6, 0), [(2, 78)], [(0, 0, 24, 24), (1, 1, 7, 7), (3, 3, 0, 24)]), some ((0, 168), [], [(0, 167, (-1), 299)]), some ((6, 0), [(2, 80)], [(0, 1, 6, 6), (3, 3, 0, 6)])]
set_option maxRecDepth 100000 in
noncomputable def p2_T5 : List (Option ((Nat × Nat) × List (Int × Nat) × List (Int × Int × Int × Int))) := [some ((0, 36), [], [(0, 35, 0, 20)]), some ((6, 0), [(2, 82)], [(0, 0, 24, 24), (1, 1, 3, 3), (3, 3, 0, 24)]), some ((0, 72), [], [(0, 71, (-1), 299)]), some ((5, 0), [(9, 84), (10, 86), (11, 88), (12, 90), (13, 92), (14, 94)], [(0, 0, 1, 6), (1, 1, 10, 99), (2, 2, 0, 98), (3, 3, 0, 9), (4, 4, 0, 6), (5, 5, 0, 9999), (6, 6, 0, 299), (7, 7, (-2147483648), 2147483647)]), some ((6, 0), [(2, 85)], [(0, 0, 8, 8), (1, 1, 7, 7), (3, 3, 0, 8)]), some ((0, 56), [], [(0, 55, 0, 98)]), some ((6, 0), [(2, 87)], [(0, 0, 8, 8), (1, 1, 3, 3), (3, 3, 0, 8)]), some ((0, 24), [], [(0, 23, 0, 299)]), some ((6, 0), [(2, 89)], [(0, 0, 8, 8), (1, 1, 3, 3), (3, 3, 0, 8)]), some ((0, 24), [], [(0, 23, (-1), 98)]), some ((6, 0), [(2, 91)], [(0, 0, 24, 24), (1, 1, 7, 7), (3, 3, 0, 24)]), some ((0, 168), [], [(0, 167, (-1), 299)]), some ((6, 0), [(2, 93)], [(0, 1, 6, 6), (3, 3, 0, 6)]), some ((0, 36), [], [(0, 35, 0, 20)]), some ((6, 0), [(2, 95)], [(0, 0, 24, 24), (1, 1, 3, 3), (3, 3, 0, 24)]), some ((0, 72), [], [(0, 71, (-1), 299)])]
set_option maxRecDepth 100000 in
noncomputable def p2_T6 : List (Option ((Nat × Nat) × List (Int × Nat) × List (Int × Int × Int × Int))) := [some ((5, 0), [(9, 97), (10, 99), (11, 101), (12, 103), (13, 105), (14, 107)], [(0, 0, 1, 6), (1, 1, 10, 99), (2, 2, 0, 98), (3, 3, 0, 9), (4, 4, 0, 6), (5, 5, 0, 9999), (6, 6, 0, 299), (7, 7, (-2147483648), 2147483647)]), some ((6, 0), [(2, 98)], [(0, 0, 8, 8), (1, 1, 7, 7), (3, 3, 0, 8)]), some ((0, 56), [], [(0, 55, 0, 98)]), some ((6, 0), [(2, 100)], [(0, 0, 8, 8), (1, 1, 3, 3), (3, 3, 0, 8)]), some ((0, 24), [], [(0, 23, 0, 299)]), some ((6, 0), [(2, 102)], [(0, 0, 8, 8), (1, 1, 3, 3), (3, 3, 0, 8)]), some ((0, 24), [], [(0, 23, (-1), 98)]), some ((6, 0), [(2, 104)], [(0, 0, 24, 24), (1, 1, 7, 7), (3, 3, 0, 24)]), some ((0, 168), [], [(0, 167, (-1), 299)]), some ((6, 0), [(2, 106)], [(0, 1, 6, 6), (3, 3, 0, 6)]), some ((0, 36), [], [(0, 35, 0, 20)]), some ((6, 0), [(2, 108)], [(0, 0, 24, 24), (1, 1, 3, 3), (3, 3, 0, 24)]), some ((0, 72), [], [(0, 71, (-1), 299)]), some ((5, 0), [(9, 110), (10, 112), (11, 114), (12, 116), (13, 118), (14, 120)], [(0, 0, 1, 6), (1, 1, 10, 99), (2, 2, 0, 98), (3, 3, 0, 9), (4, 4, 0, 6), (5, 5, 0, 9999), (6, 6, 0, 299), (7, 7, (-2147483648), 2147483647)]), some ((6, 0), [(2, 111)], [(0, 0, 8, 8), (1, 1, 7, 7), (3, 3, 0, 8)]), some ((0, 56), [], [(0, 55, 0, 98)])]
set_option maxRecDepth 100000 in
noncomputable def p2_T7 : List (Option ((Nat × Nat) × List (Int × Nat) × List (Int × Int × Int × Int))) := [some ((6, 0), [(2, 113)], [(0, 0, 8, 8), (1, 1, 3, 3), (3, 3, 0, 8)]), some ((0, 24), [], [(0, 23, 0, 299)]), some ((6, 0), [(2, 115)], [(0, 0, 8, 8), (1, 1, 3, 3), (3, 3, 0, 8)]), some ((0, 24), [], [(0, 23, (-1), 98)]), some ((6, 0), [(2, 117)], [(0, 0, 24, 24), (1, 1, 7, 7), (3, 3, 0, 24)]), some ((0, 168), [], [(0, 167, (-1), 299)]), some ((6, 0), [(2, 119)], [(0, 1, 6, 6), (3, 3, 0, 6)]), some ((0, 36), [], [(0, 35, 0, 20)]), some ((6, 0), [(2, 121)], [(0, 0, 24, 24), (1, 1, 3, 3), (3, 3, 0, 24)]), some ((0, 72), [], [(0, 71, (-1), 299)]), some ((5, 0), [(9, 123), (10, 125), (11, 127), (12, 129), (13, 131), (14, 133)], [(0, 0, 1, 6), (1, 1, 10, 99), (2, 2, 0, 98), (3, 3, 0, 9), (4, 4, 0, 6), (5, 5, 0, 9999), (6, 6, 0, 299), (7, 7, (-2147483648), 2147483647)]), some ((6, 0), [(2, 124)], [(0, 0, 8, 8), (1, 1, 7, 7), (3, 3, 0, 8)]), some ((0, 56), [], [(0, 55, 0, 98)]), some ((6, 0), [(2, 126)], [(0, 0, 8, 8), (1, 1, 3, 3), (3, 3, 0, 8)]), some ((0, 24), [], [(0, 23, 0, 299)]), some ((6, 0), [(2, 128)], [(0, 0, 8, 8), (1, 1, 3, 3), (3, 3, 0, 8)])]
set_option maxRecDepth 100000 in
noncomputable def p2_T8 : List (Option ((Nat × Nat) × List (Int × Nat) × List (Int × Int × Int × Int))) := [some ((0, 24), [], [(0, 23, (-1), 98)]), some ((6, 0), [(2, 130)], [(0, 0, 24, 24), (1, 1, 7, 7), (3, 3, 0, 24)]), some ((0, 168), [], [(0, 167, (-1), 299)]), some ((6, 0), [(2, 132)], [(0, 1, 6, 6), (3, 3, 0, 6)]), some ((0, 36), [], [(0, 35, 0, 20)]), some ((6, 0), [(2, 134)], [(0, 0, 24, 24), (1, 1, 3, 3), (3, 3, 0, 24)]), some ((0, 72), [], [(0, 71, (-1), 299)]), some ((5, 0), [(9, 136), (10, 138), (11, 140), (12, 142), (13, 144), (14, 146)], [(0, 0, 1, 6), (1, 1, 10, 99), (2, 2, 0, 98), (3, 3, 0, 9), (4, 4, 0, 6), (5, 5, 0, 9999), (6, 6, 0, 299), (7, 7, (-2147483648), 2147483647)]), some ((6, 0), [(2, 137)], [(0, 0, 8, 8), (1, 1, 7, 7), (3, 3, 0, 8)]), some ((0, 56), [], [(0, 55, 0, 98)]), some ((6, 0), [(2, 139)], [(0, 0, 8, 8), (1, 1, 3, 3), (3, 3, 0, 8)]), some ((0, 24), [], [(0, 23, 0, 299)]), some ((6, 0), [(2, 141)], [(0, 0, 8, 8), (1, 1, 3, 3), (3, 3, 0, 8)]), some ((0, 24), [], [(0, 23, (-1), 98)]), some ((6, 0), [(2, 143)], [(0, 0, 24, 24), (1, 1, 7, 7), (3, 3, 0, 24)]), some ((0, 168), [], [(0, 167, (-1), 299)])]
set_option maxRecDepth 100000 in
noncomputable def p2_T9 : List (Option ((Nat × Nat) × List (Int × Nat) × List (Int × Int × Int × Int))) := [some ((6, 0), [(2, 145)], [(0, 1, 6, 6), (3, 3, 0, 6)]), some ((0, 36), [], [(0, 35, 0, 20)]), some ((6, 0), [(2, 147)], [(0, 0, 24, 24), (1, 1, 3, 3), (3, 3, 0, 24)]), some ((0, 72), [], [(0, 71, (-1), 299)]), some ((5, 0), [(9, 149), (10, 151), (11, 153), (12, 155), (13, 157), (14, 159)], [(0, 0, 1, 6), (1, 1, 10, 99), (2, 2, 0, 98), (3, 3, 0, 9), (4, 4, 0, 6), (5, 5, 0, 9999), (6, 6, 0, 299), (7, 7, (-2147483648), 2147483647)]), some ((6, 0), [(2, 150)], [(0, 0, 8, 8), (1, 1, 7, 7), (3, 3, 0, 8)]), some ((0, 56), [], [(0, 55, 0, 98)]), some ((6, 0), [(2, 152)], [(0, 0, 8, 8), (1, 1, 3, 3), (3, 3, 0, 8)]), some ((0, 24), [], [(0, 23, 0, 299)]), some ((6, 0), [(2, 154)], [(0, 0, 8, 8), (1, 1, 3, 3), (3, 3, 0, 8)]), some ((0, 24), [], [(0, 23, (-1), 98)]), some ((6, 0), [(2, 156)], [(0, 0, 24, 24), (1, 1, 7, 7), (3, 3, 0, 24)]), some ((0, 168), [], [(0, 167, (-1), 299)]), some ((6, 0), [(2, 158)], [(0, 1, 6, 6), (3, 3, 0, 6)]), some ((0, 36), [], [(0, 35, 0, 20)]), some ((6, 0), [(2, 160)], [(0, 0, 24, 24), (1, 1, 3, 3), (3, 3, 0, 24)])]
set_option maxRecDepth 100000 in
noncomputable def p2_T10 : List (Option ((Nat × Nat) × List (Int × Nat) × List (Int × Int × Int × Int))) := [some ((0, 72), [], [(0, 71, (-1), 299)]), some ((5, 0), [(9, 162), (10, 164), (11, 166), (12, 168), (13, 170), (14, 172)], [(0, 0, 1, 6), (1, 1, 10, 99), (2, 2, 0, 98), (3, 3, 0, 9), (4, 4, 0, 6), (5, 5, 0, 9999), (6, 6, 0, 299), (7, 7, (-2147483648), 2147483647)]), some ((6, 0), [(2, 163)], [(0, 0, 8, 8), (1, 1, 7, 7), (3, 3, 0, 8)]), some ((0, 56), [], [(0, 55, 0, 98)]), some ((6, 0), [(2, 165)], [(0, 0, 8, 8), (1, 1, 3, 3), (3, 3, 0, 8)]), some ((0, 24), [], [(0, 23, 0, 299)]), some ((6, 0), [(2, 167)], [(0, 0, 8, 8), (1, 1, 3, 3), (3, 3, 0, 8)]), some ((0, 24), [], [(0, 23, (-1), 98)]), some ((6, 0), [(2, 169)], [(0, 0, 24, 24), (1, 1, 7, 7), (3, 3, 0, 24)]), some ((0, 168), [], [(0, 167, (-1), 299)]), some ((6, 0), [(2, 171)], [(0, 1, 6, 6), (3, 3, 0, 6)]), some ((0, 36), [], [(0, 35, 0, 20)]), some ((6, 0), [(2, 173)], [(0, 0, 24, 24), (1, 1, 3, 3), (3, 3, 0, 24)]), some ((0, 72), [], [(0, 71, (-1), 299)]), some ((5, 0), [(9, 175), (10, 177), (11, 179), (12, 181), (13, 183), (14, 185)], [(0, 0, 1, 6), (1, 1, 10, 99), (2, 2, 0, 98), (3, 3, 0, 9), (4, 4, 0, 6), (5, 5, 0, 9999), (6, 6, 0, 299), (7, 7, (-2147483648), 2147483647)]), some ((6, 0), [(2, 176)], [(0, 0, 8, 8), (1, 1, 7, 7), (3, 3, 0, 8)])]
set_option maxRecDepth 100000 in
noncomputable def p2_T11 : List (Option ((Nat × Nat) × List (Int × Nat) × List (Int × Int × Int × Int))) := [some ((0, 56), [], [(0, 55, 0, 98)]), some ((6, 0), [(2, 178)], [(0, 0, 8, 8), (1, 1, 3, 3), (3, 3, 0, 8)]), some ((0, 24), [], [(0, 23, 0, 299)]), some ((6, 0), [(2, 180)], [(0, 0, 8, 8), (1, 1, 3, 3), (3, 3, 0, 8)]), some ((0, 24), [], [(0, 23, (-1), 98)]), some ((6, 0), [(2, 182)], [(0, 0, 24, 24), (1, 1, 7, 7), (3, 3, 0, 24)]), some ((0, 168), [], [(0, 167, (-1), 299)]), some ((6, 0), [(2, 184)], [(0, 1, 6, 6), (3, 3, 0, 6)]), some ((0, 36), [], [(0, 35, 0, 20)]), some ((6, 0), [(2, 186)], [(0, 0, 24, 24), (1, 1, 3, 3), (3, 3, 0, 24)]), some ((0, 72), [], [(0, 71, (-1), 299)]), some ((5, 0), [(9, 188), (10, 190), (11, 192), (12, 194), (13, 196), (14, 198)], [(0, 0, 1, 6), (1, 1, 10, 99), (2, 2, 0, 98), (3, 3, 0, 9), (4, 4, 0, 6), (5, 5, 0, 9999), (6, 6, 0, 299), (7, 7, (-2147483648), 2147483647)]), some ((6, 0), [(2, 189)], [(0, 0, 8, 8), (1, 1, 7, 7), (3, 3, 0, 8)]), some ((0, 56), [], [(0, 55, 0, 98)]), some ((6, 0), [(2, 191)], [(0, 0, 8, 8), (1, 1, 3, 3), (3, 3, 0, 8)]), some ((0, 24), [], [(0, 23, 0, 299)])]
set_option maxRecDepth 100000 in
noncomputable def p2_T12 : List (Option ((Nat × Nat) × List (Int × Nat) × List (Int × Int × Int × Int))) := [some ((6, 0), [(2, 193)], [(0, 0, 8, 8), (1, 1, 3, 3), (3, 3, 0, 8)]), some ((0, 24), [], [(0, 23, (-1), 98)]), some ((6, 0), [(2, 195)], [(0, 0, 24, 24), (1, 1, 7, 7), (3, 3, 0, 24)]), some ((0, 168), [], [(0, 167, (-1), 299)]), some ((6, 0), [(2, 197)], [(0, 1, 6, 6), (3, 3, 0, 6)]), some ((0, 36), [], [(0, 35, 0, 20)]), some ((6, 0), [(2, 199)], [(0, 0, 24, 24), (1, 1, 3, 3), (3, 3, 0, 24)]), some ((0, 72), [], [(0, 71, (-1), 299)]), some ((8, 0), [(0, 3), (1, 201), (2, 202), (3, 203), (4, 204), (5, 205)], [(6, 6, 0, 1)]), some ((0, 300), [], [(0, 299, 0, 9)]), some ((0, 594), [], [(0, 593, (-1), 98)]), some ((0, 300), [], [(0, 299, (-2147483648), 2147483647)]), some ((0, 10), [], [(0, 9, (-2147483648), 2147483647)]), some ((2, 14850), [], []), some ((9, 0), [(0, 3), (1, 200)], [(2, 2, (-2147483648), 2147483647), (3, 3, 0, 1), (4, 4, (-1), 7), (5, 5, (-2147483648), 2147483647), (6, 6, 0, 99), (7, 8, (-2147483648), 2147483647)]), some ((9, 0), [(0, 3), (1, 200)], [(2, 2, (-1), 299), (3, 3, 0, 1), (4, 4, (-1), (-1)), (5, 5, (-2147483648), 2147483647), (6, 6, 0, 99), (7, 8, (-2147483648), 2147483647)])]
set_option maxRecDepth 100000 in
noncomputable def p2_T13 : List (Option ((Nat × Nat) × List (Int × Nat) × List (Int × Int × Int × Int))) := [some ((10, 0), [(0, 3), (1, 206), (2, 209), (3, 211)], []), some ((6, 0), [(2, 210)], [(0, 0, 8, 8), (1, 1, 300, 300), (3, 3, 0, 8)]), some ((0, 2400), [], [(0, 2399, (-2147483648), 2147483647)]), some ((6, 0), [(2, 212)], [(0, 0, 8, 8), (1, 1, 300, 300), (3, 3, 0, 8)]), some ((0, 2400), [], [(0, 2399, (-2147483648), 299)]), some ((11, 0), [(0, 214), (2, 16)], [(1, 1, 14, 14)]), some ((12, 0), [(0, 2)], [(1, 1, 4, 4), (2, 4, 0, 400), (5, 5, (-1), 400), (6, 6, 0, 258), (7, 7, (-2147483648), 2147483647)]), some ((13, 0), [(0, 216), (2, 217), (3, 219)], [(1, 1, 12, 12), (4, 4, 0, 400)]), some ((12, 0), [(0, 2)], [(1, 1, 3, 3), (2, 4, 0, 400), (5, 5, (-1), 400), (6, 6, 0, 258), (7, 7, (-2147483648), 2147483647)]), some ((6, 0), [(2, 218)], [(0, 0, 12, 12), (1, 1, 4, 4), (3, 3, 0, 12)]), some ((0, 48), [], [(0, 47, 0, 400)]), some ((0, 400), [], [(0, 399, (-2147483648), 2147483647)]), some ((6, 0), [(2, 221)], [(0, 0, 24, 24), (1, 1, 2, 2), (3, 3, 0, 24)]), some ((0, 48), [], [(0, 47, (-2147483648), 299)]), some ((6, 0), [(2, 223)], [(0, 0, 30, 30), (1, 1, 6, 6), (3, 3, 0, 30)]), some ((0, 180), [], [(0, 179, (-2147483648), 2147483647)])]
set_option maxRecDepth 100000 in
noncomputable def p2_T14_17254 : List (Int × Int × Int × Int) := [(0, 0, 0, 6), (1, 1, 0, 99), (2, 3, 0, 8), (4, 4, 0, 24), (5, 5, 0, 8), (6, 6, 0, 6), (7, 7, 0, 12), (8, 8, 0, 1), (9, 9, 0, 299), (10, 10, 0, 98), (11, 11, 0, 9), (12, 12, (-1), 6), (13, 13, (-1), 9999), (14, 14, 0, 24), (15, 15, 0, 0), (16, 21, 0, 20), (22, 22, 0, 98), (23, 28, 0, 20), (29, 29, 0, 98), (30, 35, 0, 20), (36, 36, 0, 98), (37, 42, 0, 20), (43, 43, 0, 98), (44, 49, 0, 20), (50, 50, 0, 98), (51, 56, 0, 20), (57, 57, 0, 98), (58, 63, 0, 20), (64, 64, 0, 98), (65, 70, 0, 20), (71, 71, 0, 299), (72, 72, 0, 98), (73, 73, 0, 20), (74, 74, 0, 299), (75, 75, 0, 98), (76, 76, 0, 20), (77, 77, 0, 299), (78, 78, 0, 98), (79, 79, 0, 20), (80, 80, 0, 299), (81, 81, 0, 98), (82, 82, 0, 20), (83, 83, 0, 299), (84, 84, 0, 98), (85, 85, 0, 20), (86, 86, 0, 299), (87, 87, 0, 98), (88, 88, 0, 20), (89, 89, 0, 299), (90, 90, 0, 98), (91, 91, 0, 20), (92, 92, 0, 299), (93, 93, 0, 98), (94, 94, 0, 20), (95, 95, 0, 6), (96, 96, 0, 98), (97, 97, (-1), 6), (98, 98, 0, 6), (99, 99, 0, 98), (100, 100, (-1), 6), (101, 101, 0, 6), (102, 102, 0, 98), (103, 103, (-1), 6), (104, 104, 0, 6), (105, 105, 0, 98), (106, 106, (-1), 6), (107, 107, 0, 6), (108, 108, 0, 98), (109, 109, (-1), 6), (110, 110, 0, 6), (111, 111, 0, 98), (112, 112, (-1), 6), (113, 113, 0, 6), (114, 114, 0, 98), (115, 115, (-1), 6), (116, 116, 0, 6), (117, 117, 0, 98), (118, 118, (-1), 6), (119, 120, (-1), 7), (121, 121, 0, 6), (122, 122, 0, 299), (123, 123, 0, 98), (124, 124, (-1), 7), (125, 125, (-1), 299), (126, 127, (-1), 7), (128, 128, 0, 6), (129, 129, 0, 299), (130, 130, 0, 98), (131, 131, (-1), 7), (132, 132, (-1), 299), (133, 134, (-1), 7), (135, 135, 0, 6), (136, 136, 0, 299), (137, 137, 0, 98), (138, 138, (-1), 7), (139, 139, (-1), 299), (140, 141, (-1), 7), (142, 142, 0, 6), (143, 143, 0, 299), (144, 144, 0, 98), (145, 145, (-1), 7), (146, 146, (-1), 299), (147, 148, (-1), 7), (149, 149, 0, 6), (150, 150, 0, 299), (151, 151, 0, 98), (152, 152, (-1), 7), (153, 153, (-1), 299), (154, 155, (-1), 7), (156, 156, 0, 6), (157, 157, 0, 299), (158, 158, 0, 98), (159, 159, (-1), 7), (160, 160, (-1), 299), (161, 162, (-1), 7), (163, 163, 0, 6), (164, 164, 0, 299), (165, 165, 0, 98), (166, 166, (-1), 7), (167, 167, (-1), 299), (168, 169, (-1), 7), (170, 170, 0, 6), (171, 171, 0, 299), (172, 172, 0, 98), (173, 173, (-1), 7), (174, 174, (-1), 299), (175, 176, (-1), 7), (177, 177, 0, 6), (178, 178, 0, 299), (179, 179, 0, 98), (180, 180, (-1), 7), (181, 181, (-1), 299), (182, 183, (-1), 7), (184, 184, 0, 6), (185, 185, 0, 299), (186, 186, 0, 98), (187, 187, (-1), 7), (188, 188, (-1), 299), (189, 190, (-1), 7), (191, 191, 0, 6), (192, 192, 0, 299), (193, 193, 0, 98), (194, 194, (-1), 7), (195, 195, (-1), 299), (196, 197, (-1), 7), (198, 198, 0, 6), (199, 199, 0, 299), (200, 200, 0, 98), (201, 201, (-1), 7), (202, 202, (-1), 299), (203, 204, (-1), 7), (205, 205, 0, 6), (206, 206, 0, 299), (207, 207, 0, 98), (208, 208, (-1), 7), (209, 209, (-1), 299), (210, 211, (-1), 7), (212, 212, 0, 6), (213, 213, 0, 299), (214, 214, 0, 98), (215, 215, (-1), 7), (216, 216, (-1), 299), (217, 218, (-1), 7), (219, 219, 0, 6), (220, 220, 0, 299), (221, 221, 0, 98), (222, 222, (-1), 7), (223, 223, (-1), 299), (224, 225, (-1), 7), (226, 226, 0, 6), (227, 227, 0, 299), (228, 228, 0, 98), (229, 229, (-1), 7), (230, 230, (-1), 299), (231, 232, (-1), 7), (233, 233, 0, 6), (234, 234, 0, 299), (235, 235, 0, 98), (236, 236, (-1), 7), (237, 237, (-1), 299), (238, 239, (-1), 7), (240, 240, 0, 6), (241, 241, 0, 299), (242, 242, 0, 98), (243, 243, (-1), 7), (244, 244, (-1), 299), (245, 246, (-1), 7), (247, 247, 0, 6), (248, 248, 0, 299), (249, 249, 0, 98), (250, 250, (-1), 7), (251, 251, (-1), 299), (252, 253, (-1), 7), (254, 254, 0, 6), (255, 255, 0, 299), (256, 256, 0, 98), (257, 257, (-1), 7), (258, 258, (-1), 299), (259, 260, (-1), 7), (261, 261, 0, 6), (262, 262, 0, 299), (263, 263, 0, 98), (264, 264, (-1), 7), (265, 265, (-1), 299), (266, 267, (-1), 7), (268, 268, 0, 6), (269, 269, 0, 299), (270, 270, 0, 98), (271, 271, (-1), 7), (272, 272, (-1), 299), (273, 274, (-1), 7), (275, 275, 0, 6), (276, 276, 0, 299), (277, 277, 0, 98), (278, 278, (-1), 7), (279, 279, (-1), 299), (280, 281, (-1), 7), (282, 282, 0, 6), (283, 283, 0, 299), (284, 284, 0, 98), (285, 285, (-1), 7), (286, 286, (-1), 299), (287, 322, 0, 20), (323, 323, 0, 299), (324, 324, 0, 23), (325, 325, (-1), 7), (326, 326, 0, 299), (327, 327, 0, 23), (328, 328, (-1), 7), (329, 329, 0, 299), (330, 330, 0, 23), (331, 331, (-1), 7), (332, 332, 0, 299), (333, 333, 0, 23), (334, 334, (-1), 7), (335, 335, 0, 299), (336, 336, 0, 23), (337, 337, (-1), 7), (338, 338, 0, 299), (339, 339, 0, 23), (340, 340, (-1), 7), (341, 341, 0, 299), (342, 342, 0, 23), (343, 343, (-1), 7), (344, 344, 0, 299), (345, 345, 0, 23), (346, 346, (-1), 7), (347, 347, 0, 299), (348, 348, 0, 23), (349, 349, (-1), 7), (350, 350, 0, 299), (351, 351, 0, 23), (352, 352, (-1), 7), (353, 353, 0, 299), (354, 354, 0, 23), (355, 355, (-1), 7), (356, 356, 0, 299), (357, 357, 0, 23), (358, 358, (-1), 7), (359, 359, 0, 299), (360, 360, 0, 23), (361, 361, (-1), 7), (362, 362, 0, 299), (363, 363, 0, 23), (364, 364, (-1), 7), (365, 365, 0, 299), (366, 366, 0, 23), (367, 367, (-1), 7), (368, 368, 0, 299), (369, 369, 0, 23), (370, 370, (-1), 7), (371, 371, 0, 299), (372, 372, 0, 23), (373, 373, (-1), 7), (374, 374, 0, 299), (375, 375, 0, 23), (376, 376, (-1), 7), (377, 377, 0, 299), (378, 378, 0, 23), (379, 379, (-1), 7), (380, 380, 0, 299), (381, 381, 0, 23), (382, 382, (-1), 7), (383, 383, 0, 299), (384, 384, 0, 23), (385, 385, (-1), 7), (386, 386, 0, 299), (387, 387, 0, 23), (388, 388, (-1), 7), (389, 389, 0, 299), (390, 390, 0, 23), (391, 391, (-1), 7), (392, 392, 0, 299), (393, 393, 0, 23), (394, 394, (-1), 7), (395, 395, 0, 12), (396, 396, (-1), 2), (397, 397, (-1), 20), (398, 399, 0, 400), (400, 400, (-1), 2), (401, 401, (-1), 20), (402, 403, 0, 400), (404, 404, (-1), 2), (405, 405, (-1), 20), (406, 407, 0, 400), (408, 408, (-1), 2), (409, 409, (-1), 20), (410, 411, 0, 400), (412, 412, (-1), 2), (413, 413, (-1), 20), (414, 415, 0, 400), (416, 416, (-1), 2), (417, 417, (-1), 20), (418, 419, 0, 400), (420, 420, (-1), 2), (421, 421, (-1), 20), (422, 423, 0, 400), (424, 424, (-1), 2), (425, 425, (-1), 20), (426, 427, 0, 400), (428, 428, (-1), 2), (429, 429, (-1), 20), (430, 431, 0, 400), (432, 432, (-1), 2), (433, 433, (-1), 20), (434, 435, 0, 400), (436, 436, (-1), 2), (437, 437, (-1), 20), (438, 439, 0, 400), (440, 440, (-1), 2), (441, 441, (-1), 20), (442, 443, 0, 400), (444, 1243, (-1), 999), (1244, 1244, 0, 12), (1245, 1245, (-1), 2), (1246, 1246, (-1), 20), (1247, 1248, 0, 400), (1249, 1249, (-1), 2), (1250, 1250, (-1), 20), (1251, 1252, 0, 400), (1253, 1253, (-1), 2), (1254, 1254, (-1), 20), (1255, 1256, 0, 400), (1257, 1257, (-1), 2), (1258, 1258, (-1), 20), (1259, 1260, 0, 400), (1261, 1261, (-1), 2), (1262, 1262, (-1), 20), (1263, 1264, 0, 400), (1265, 1265, (-1), 2), (1266, 1266, (-1), 20), (1267, 1268, 0, 400), (1269, 1269, (-1), 2), (1270, 1270, (-1), 20), (1271, 1272, 0, 400), (1273, 1273, (-1), 2), (1274, 1274, (-1), 20), (1275, 1276, 0, 400), (1277, 1277, (-1), 2), (1278, 1278, (-1), 20), (1279, 1280, 0, 400), (1281, 1281, (-1), 2), (1282, 1282, (-1), 20), (1283, 1284, 0, 400), (1285, 1285, (-1), 2), (1286, 1286, (-1), 20), (1287, 1288, 0, 400), (1289, 1289, (-1), 2), (1290, 1290, (-1), 20), (1291, 1292, 0, 400), (1293, 2092, (-1), 999)]
set_option maxRecDepth 100000 in
noncomputable def p2_T14_24762 : List (Int × Int × Int × Int) := [(0, 0, 0, 6), (1, 1, 0, 99), (2, 3, 0, 8), (4, 4, 0, 24), (5, 5, 0, 8), (6, 6, 0, 6), (7, 7, 0, 12), (8, 8, 0, 1), (9, 9, 0, 299), (10, 10, 0, 98), (11, 11, 0, 9), (12, 12, (-1), 6), (13, 13, (-1), 9999), (14, 14, 0, 24), (15, 15, 0, 0), (16, 21, 0, 20), (22, 22, 0, 98), (23, 28, 0, 20), (29, 29, 0, 98), (30, 35, 0, 20), (36, 36, 0, 98), (37, 42, 0, 20), (43, 43, 0, 98), (44, 49, 0, 20), (50, 50, 0, 98), (51, 56, 0, 20), (57, 57, 0, 98), (58, 63, 0, 20), (64, 64, 0, 98), (65, 70, 0, 20), (71, 71, 0, 299), (72, 72, 0, 98), (73, 73, 0, 20), (74, 74, 0, 299), (75, 75, 0, 98), (76, 76, 0, 20), (77, 77, 0, 299), (78, 78, 0, 98), (79, 79, 0, 20), (80, 80, 0, 299), (81, 81, 0, 98), (82, 82, 0, 20), (83, 83, 0, 299), (84, 84, 0, 98), (85, 85, 0, 20), (86, 86, 0, 299), (87, 87, 0, 98), (88, 88, 0, 20), (89, 89, 0, 299), (90, 90, 0, 98), (91, 91, 0, 20), (92, 92, 0, 299), (93, 93, 0, 98), (94, 94, 0, 20), (95, 95, 0, 6), (96, 96, 0, 98), (97, 97, (-1), 6), (98, 98, 0, 6), (99, 99, 0, 98), (100, 100, (-1), 6), (101, 101, 0, 6), (102, 102, 0, 98), (103, 103, (-1), 6), (104, 104, 0, 6), (105, 105, 0, 98), (106, 106, (-1), 6), (107, 107, 0, 6), (108, 108, 0, 98), (109, 109, (-1), 6), (110, 110, 0, 6), (111, 111, 0, 98), (112, 112, (-1), 6), (113, 113, 0, 6), (114, 114, 0, 98), (115, 115, (-1), 6), (116, 116, 0, 6), (117, 117, 0, 98), (118, 118, (-1), 6), (119, 120, (-1), 7), (121, 121, 0, 6), (122, 122, 0, 299), (123, 123, 0, 98), (124, 124, (-1), 7), (125, 125, (-1), 299), (126, 127, (-1), 7), (128, 128, 0, 6), (129, 129, 0, 299), (130, 130, 0, 98), (131, 131, (-1), 7), (132, 132, (-1), 299), (133, 134, (-1), 7), (135, 135, 0, 6), (136, 136, 0, 299), (137, 137, 0, 98), (138, 138, (-1), 7), (139, 139, (-1), 299), (140, 141, (-1), 7), (142, 142, 0, 6), (143, 143, 0, 299), (144, 144, 0, 98), (145, 145, (-1), 7), (146, 146, (-1), 299), (147, 148, (-1), 7), (149, 149, 0, 6), (150, 150, 0, 299), (151, 151, 0, 98), (152, 152, (-1), 7), (153, 153, (-1), 299), (154, 155, (-1), 7), (156, 156, 0, 6), (157, 157, 0, 299), (158, 158, 0, 98), (159, 159, (-1), 7), (160, 160, (-1), 299), (161, 162, (-1), 7), (163, 163, 0, 6), (164, 164, 0, 299), (165, 165, 0, 98), (166, 166, (-1), 7), (167, 167, (-1), 299), (168, 169, (-1), 7), (170, 170, 0, 6), (171, 171, 0, 299), (172, 172, 0, 98), (173, 173, (-1), 7), (174, 174, (-1), 299), (175, 176, (-1), 7), (177, 177, 0, 6), (178, 178, 0, 299), (179, 179, 0, 98), (180, 180, (-1), 7), (181, 181, (-1), 299), (182, 183, (-1), 7), (184, 184, 0, 6), (185, 185, 0, 299), (186, 186, 0, 98), (187, 187, (-1), 7), (188, 188, (-1), 299), (189, 190, (-1), 7), (191, 191, 0, 6), (192, 192, 0, 299), (193, 193, 0, 98), (194, 194, (-1), 7), (195, 195, (-1), 299), (196, 197, (-1), 7), (198, 198, 0, 6), (199, 199, 0, 299), (200, 200, 0, 98), (201, 201, (-1), 7), (202, 202, (-1), 299), (203, 204, (-1), 7), (205, 205, 0, 6), (206, 206, 0, 299), (207, 207, 0, 98), (208, 208, (-1), 7), (209, 209, (-1), 299), (210, 211, (-1), 7), (212, 212, 0, 6), (213, 213, 0, 299), (214, 214, 0, 98), (215, 215, (-1), 7), (216, 216, (-1), 299), (217, 218, (-1), 7), (219, 219, 0, 6), (220, 220, 0, 299), (221, 221, 0, 98), (222, 222, (-1), 7), (223, 223, (-1), 299), (224, 225, (-1), 7), (226, 226, 0, 6), (227, 227, 0, 299), (228, 228, 0, 98), (229, 229, (-1), 7), (230, 230, (-1), 299), (231, 232, (-1), 7), (233, 233, 0, 6), (234, 234, 0, 299), (235, 235, 0, 98), (236, 236, (-1), 7), (237, 237, (-1), 299), (238, 239, (-1), 7), (240, 240, 0, 6), (241, 241, 0, 299), (242, 242, 0, 98), (243, 243, (-1), 7), (244, 244, (-1), 299), (245, 246, (-1), 7), (247, 247, 0, 6), (248, 248, 0, 299), (249, 249, 0, 98), (250, 250, (-1), 7), (251, 251, (-1), 299), (252, 253, (-1), 7), (254, 254, 0, 6), (255, 255, 0, 299), (256, 256, 0, 98), (257, 257, (-1), 7), (258, 258, (-1), 299), (259, 260, (-1), 7), (261, 261, 0, 6), (262, 262, 0, 299), (263, 263, 0, 98), (264, 264, (-1), 7), (265, 265, (-1), 299), (266, 267, (-1), 7), (268, 268, 0, 6), (269, 269, 0, 299), (270, 270, 0, 98), (271, 271, (-1), 7), (272, 272, (-1), 299), (273, 274, (-1), 7), (275, 275, 0, 6), (276, 276, 0, 299), (277, 277, 0, 98), (278, 278, (-1), 7), (279, 279, (-1), 299), (280, 281, (-1), 7), (282, 282, 0, 6), (283, 283, 0, 299), (284, 284, 0, 98), (285, 285, (-1), 7), (286, 286, (-1), 299), (287, 322, 0, 20), (323, 323, 0, 299), (324, 324, 0, 23), (325, 325, (-1), 7), (326, 326, 0, 299), (327, 327, 0, 23), (328, 328, (-1), 7), (329, 329, 0, 299), (330, 330, 0, 23), (331, 331, (-1), 7), (332, 332, 0, 299), (333, 333, 0, 23), (334, 334, (-1), 7), (335, 335, 0, 299), (336, 336, 0, 23), (337, 337, (-1), 7), (338, 338, 0, 299), (339, 339, 0, 23), (340, 340, (-1), 7), (341, 341, 0, 299), (342, 342, 0, 23), (343, 343, (-1), 7), (344, 344, 0, 299), (345, 345, 0, 23), (346, 346, (-1), 7), (347, 347, 0, 299), (348, 348, 0, 23), (349, 349, (-1), 7), (350, 350, 0, 299), (351, 351, 0, 23), (352, 352, (-1), 7), (353, 353, 0, 299), (354, 354, 0, 23), (355, 355, (-1), 7), (356, 356, 0, 299), (357, 357, 0, 23), (358, 358, (-1), 7), (359, 359, 0, 299), (360, 360, 0, 23), (361, 361, (-1), 7), (362, 362, 0, 299), (363, 363, 0, 23), (364, 364, (-1), 7), (365, 365, 0, 299), (366, 366, 0, 23), (367, 367, (-1), 7), (368, 368, 0, 299), (369, 369, 0, 23), (370, 370, (-1), 7), (371, 371, 0, 299), (372, 372, 0, 23), (373, 373, (-1), 7), (374, 374, 0, 299), (375, 375, 0, 23), (376, 376, (-1), 7), (377, 377, 0, 299), (378, 378, 0, 23), (379, 379, (-1), 7), (380, 380, 0, 299), (381, 381, 0, 23), (382, 382, (-1), 7), (383, 383, 0, 299), (384, 384, 0, 23), (385, 385, (-1), 7), (386, 386, 0, 299), (387, 387, 0, 23), (388, 388, (-1), 7), (389, 389, 0, 299), (390, 390, 0, 23), (391, 391, (-1), 7), (392, 392, 0, 299), (393, 393, 0, 23), (394, 394, (-1), 7), (395, 395, 0, 12), (396, 396, (-1), 2), (397, 397, (-1), 20), (398, 399, 0, 400), (400, 400, (-1), 2), (401, 401, (-1), 20), (402, 403, 0, 400), (404, 404, (-1), 2), (405, 405, (-1), 20), (406, 407, 0, 400), (408, 408, (-1), 2), (409, 409, (-1), 20), (410, 411, 0, 400), (412, 412, (-1), 2), (413, 413, (-1), 20), (414, 415, 0, 400), (416, 416, (-1), 2), (417, 417, (-1), 20), (418, 419, 0, 400), (420, 420, (-1), 2), (421, 421, (-1), 20), (422, 423, 0, 400), (424, 424, (-1), 2), (425, 425, (-1), 20), (426, 427, 0, 400), (428, 428, (-1), 2), (429, 429, (-1), 20), (430, 431, 0, 400), (432, 432, (-1), 2), (433, 433, (-1), 20), (434, 435, 0, 400), (436, 436, (-1), 2), (437, 437, (-1), 20), (438, 439, 0, 400), (440, 440, (-1), 2), (441, 441, (-1), 20), (442, 443, 0, 400), (444, 1243, (-1), 999)]
set_option maxRecDepth 100000 in
noncomputable def p2_T14_31396 : List (Int × Int × Int × Int) := [(0, 0, 0, 6), (1, 1, 0, 99), (2, 3, 0, 8), (4, 4, 0, 24), (5, 5, 0, 8), (6, 6, 0, 6), (7, 7, 0, 12), (8, 8, 0, 1), (9, 9, 0, 299), (10, 10, 0, 98), (11, 11, 0, 9), (12, 12, (-1), 6), (13, 13, (-1), 9999), (14, 14, 0, 24), (15, 15, 0, 0), (16, 21, 0, 20), (22, 22, 0, 98), (23, 28, 0, 20), (29, 29, 0, 98), (30, 35, 0, 20), (36, 36, 0, 98), (37, 42, 0, 20), (43, 43, 0, 98), (44, 49, 0, 20), (50, 50, 0, 98), (51, 56, 0, 20), (57, 57, 0, 98), (58, 63, 0, 20), (64, 64, 0, 98), (65, 70, 0, 20), (71, 71, 0, 299), (72, 72, 0, 98), (73, 73, 0, 20), (74, 74, 0, 299), (75, 75, 0, 98), (76, 76, 0, 20), (77, 77, 0, 299), (78, 78, 0, 98), (79, 79, 0, 20), (80, 80, 0, 299), (81, 81, 0, 98), (82, 82, 0, 20), (83, 83, 0, 299), (84, 84, 0, 98), (85, 85, 0, 20), (86, 86, 0, 299), (87, 87, 0, 98), (88, 88, 0, 20), (89, 89, 0, 299), (90, 90, 0, 98), (91, 91, 0, 20), (92, 92, 0, 299), (93, 93, 0, 98), (94, 94, 0, 20), (95, 95, 0, 6), (96, 96, 0, 98), (97, 97, (-1), 6), (98, 98, 0, 6), (99, 99, 0, 98), (100, 100, (-1), 6), (101, 101, 0, 6), (102, 102, 0, 98), (103, 103, (-1), 6), (104, 104, 0, 6), (105, 105, 0, 98), (106, 106, (-1), 6), (107, 107, 0, 6), (108, 108, 0, 98), (109, 109, (-1), 6), (110, 110, 0, 6), (111, 111, 0, 98), (112, 112, (-1), 6), (113, 113, 0, 6), (114, 114, 0, 98), (115, 115, (-1), 6), (116, 116, 0, 6), (117, 117, 0, 98), (118, 118, (-1), 6), (119, 120, (-1), 7), (121, 121, 0, 6), (122, 122, 0, 299), (123, 123, 0, 98), (124, 124, (-1), 7), (125, 125, (-1), 299), (126, 127, (-1), 7), (128, 128, 0, 6), (129, 129, 0, 299), (130, 130, 0, 98), (131, 131, (-1), 7), (132, 132, (-1), 299), (133, 134, (-1), 7), (135, 135, 0, 6), (136, 136, 0, 299), (137, 137, 0, 98), (138, 138, (-1), 7), (139, 139, (-1), 299), (140, 141, (-1), 7), (142, 142, 0, 6), (143, 143, 0, 299), (144, 144, 0, 98), (145, 145, (-1), 7), (146, 146, (-1), 299), (147, 148, (-1), 7), (149, 149, 0, 6), (150, 150, 0, 299), (151, 151, 0, 98), (152, 152, (-1), 7), (153, 153, (-1), 299), (154, 155, (-1), 7), (156, 156, 0, 6), (157, 157, 0, 299), (158, 158, 0, 98), (159, 159, (-1), 7), (160, 160, (-1), 299), (161, 162, (-1), 7), (163, 163, 0, 6), (164, 164, 0, 299), (165, 165, 0, 98), (166, 166, (-1), 7), (167, 167, (-1), 299), (168, 169, (-1), 7), (170, 170, 0, 6), (171, 171, 0, 299), (172, 172, 0, 98), (173, 173, (-1), 7), (174, 174, (-1), 299), (175, 176, (-1), 7), (177, 177, 0, 6), (178, 178, 0, 299), (179, 179, 0, 98), (180, 180, (-1), 7), (181, 181, (-1), 299), (182, 183, (-1), 7), (184, 184, 0, 6), (185, 185, 0, 299), (186, 186, 0, 98), (187, 187, (-1), 7), (188, 188, (-1), 299), (189, 190, (-1), 7), (191, 191, 0, 6), (192, 192, 0, 299), (193, 193, 0, 98), (194, 194, (-1), 7), (195, 195, (-1), 299), (196, 197, (-1), 7), (198, 198, 0, 6), (199, 199, 0, 299), (200, 200, 0, 98), (201, 201, (-1), 7), (202, 202, (-1), 299), (203, 204, (-1), 7), (205, 205, 0, 6), (206, 206, 0, 299), (207, 207, 0, 98), (208, 208, (-1), 7), (209, 209, (-1), 299), (210, 211, (-1), 7), (212, 212, 0, 6), (213, 213, 0, 299), (214, 214, 0, 98), (215, 215, (-1), 7), (216, 216, (-1), 299), (217, 218, (-1), 7), (219, 219, 0, 6), (220, 220, 0, 299), (221, 221, 0, 98), (222, 222, (-1), 7), (223, 223, (-1), 299), (224, 225, (-1), 7), (226, 226, 0, 6), (227, 227, 0, 299), (228, 228, 0, 98), (229, 229, (-1), 7), (230, 230, (-1), 299), (231, 232, (-1), 7), (233, 233, 0, 6), (234, 234, 0, 299), (235, 235, 0, 98), (236, 236, (-1), 7), (237, 237, (-1), 299), (238, 239, (-1), 7), (240, 240, 0, 6), (241, 241, 0, 299), (242, 242, 0, 98), (243, 243, (-1), 7), (244, 244, (-1), 299), (245, 246, (-1), 7), (247, 247, 0, 6), (248, 248, 0, 299), (249, 249, 0, 98), (250, 250, (-1), 7), (251, 251, (-1), 299), (252, 253, (-1), 7), (254, 254, 0, 6), (255, 255, 0, 299), (256, 256, 0, 98), (257, 257, (-1), 7), (258, 258, (-1), 299), (259, 260, (-1), 7), (261, 261, 0, 6), (262, 262, 0, 299), (263, 263, 0, 98), (264, 264, (-1), 7), (265, 265, (-1), 299), (266, 267, (-1), 7), (268, 268, 0, 6), (269, 269, 0, 299), (270, 270, 0, 98), (271, 271, (-1), 7), (272, 272, (-1), 299), (273, 274, (-1), 7), (275, 275, 0, 6), (276, 276, 0, 299), (277, 277, 0, 98), (278, 278, (-1), 7), (279, 279, (-1), 299), (280, 281, (-1), 7), (282, 282, 0, 6), (283, 283, 0, 299), (284, 284, 0, 98), (285, 285, (-1), 7), (286, 286, (-1), 299), (287, 322, 0, 20), (323, 323, 0, 299), (324, 324, 0, 23), (325, 325, (-1), 7), (326, 326, 0, 299), (327, 327, 0, 23), (328, 328, (-1), 7), (329, 329, 0, 299), (330, 330, 0, 23), (331, 331, (-1), 7), (332, 332, 0, 299), (333, 333, 0, 23), (334, 334, (-1), 7), (335, 335, 0, 299), (336, 336, 0, 23), (337, 337, (-1), 7), (338, 338, 0, 299), (339, 339, 0, 23), (340, 340, (-1), 7), (341, 341, 0, 299), (342, 342, 0, 23), (343, 343, (-1), 7), (344, 344, 0, 299), (345, 345, 0, 23), (346, 346, (-1), 7), (347, 347, 0, 299), (348, 348, 0, 23), (349, 349, (-1), 7), (350, 350, 0, 299), (351, 351, 0, 23), (352, 352, (-1), 7), (353, 353, 0, 299), (354, 354, 0, 23), (355, 355, (-1), 7), (356, 356, 0, 299), (357, 357, 0, 23), (358, 358, (-1), 7), (359, 359, 0, 299), (360, 360, 0, 23), (361, 361, (-1), 7), (362, 362, 0, 299), (363, 363, 0, 23), (364, 364, (-1), 7), (365, 365, 0, 299), (366, 366, 0, 23), (367, 367, (-1), 7), (368, 368, 0, 299), (369, 369, 0, 23), (370, 370, (-1), 7), (371, 371, 0, 299), (372, 372, 0, 23), (373, 373, (-1), 7), (374, 374, 0, 299), (375, 375, 0, 23), (376, 376, (-1), 7), (377, 377, 0, 299), (378, 378, 0, 23), (379, 379, (-1), 7), (380, 380, 0, 299), (381, 381, 0, 23), (382, 382, (-1), 7), (383, 383, 0, 299), (384, 384, 0, 23), (385, 385, (-1), 7), (386, 386, 0, 299), (387, 387, 0, 23), (388, 388, (-1), 7), (389, 389, 0, 299), (390, 390, 0, 23), (391, 391, (-1), 7), (392, 392, 0, 299), (393, 393, 0, 23), (394, 394, (-1), 7), (395, 395, 0, 12), (396, 396, (-1), 2), (397, 397, (-1), 20), (398, 399, 0, 400), (400, 400, (-1), 2), (401, 401, (-1), 20), (402, 403, 0, 400), (404, 404, (-1), 2), (405, 405, (-1), 20), (406, 407, 0, 400), (408, 408, (-1), 2), (409, 409, (-1), 20), (410, 411, 0, 400), (412, 412, (-1), 2), (413, 413, (-1), 20), (414, 415, 0, 400), (416, 416, (-1), 2), (417, 417, (-1), 20), (418, 419, 0, 400), (420, 420, (-1), 2), (421, 421, (-1), 20), (422, 423, 0, 400), (424, 424, (-1), 2), (425, 425, (-1), 20), (426, 427, 0, 400), (428, 428, (-1), 2), (429, 429, (-1), 20), (430, 431, 0, 400), (432, 432, (-1), 2), (433, 433, (-1), 20), (434, 435, 0, 400), (436, 436, (-1), 2), (437, 437, (-1), 20), (438, 439, 0, 400), (440, 440, (-1), 2), (441, 441, (-1), 20), (442, 443, 0, 400), (444, 1243, (-1), 999)]
set_option maxRecDepth 100000 in
noncomputable def p2_T14 : List (Option ((Nat × Nat) × List (Int × Nat) × List (Int × Int × Int × Int))) := [some ((6, 0), [(2, 225)], [(0, 0, 31, 31), (1, 1, 6, 6), (3, 3, 0, 31)]), some ((0, 186), [], [(0, 185, (-2147483648), 2147483647)]), some ((15, 0), [(1, 227), (2, 228), (3, 229), (4, 230), (7, 231), (14, 232), (16, 233), (24, 234), (25, 235), (27, 236), (28, 237), (31, 238), (32, 239), (33, 240), (34, 241), (35, 242), (37, 243), (38, 244)], [(0, 0, 0, 3), (5, 5, 0, 1), (6, 6, 0, 12), (8, 11, 0, 400), (12, 12, 0, 6), (13, 13, (-1), 400), (15, 15, 0, 400), (17, 17, 0, 6), (18, 18, 0, 99), (19, 20, 0, 299), (21, 21, 0, 7), (22, 22, (-2147483648), 299), (23, 23, (-1), 99), (26, 26, (-1), 6), (29, 29, (-1), 299), (30, 30, (-2147483648), 2147483647), (36, 36, 0, 299)]), some ((0, 2093), [], p2_T14_17254), some ((0, 1244), [], p2_T14_24762), some ((0, 1244), [], p2_T14_31396), some ((0, 4740), [], []), some ((1, 400), [], [(0, 399, (-128), 127)]), some ((0, 5), [], [(0, 4, (-2147483648), 2147483647)]), some ((0, 400), [], [(0, 399, (-2147483648), 2147483647)]), some ((0, 300), [], [(0, 299, 0, 9)]), some ((1, 29700), [], [(0, 29699, 0, 31)]), some ((0, 300), [], [(0, 299, (-1), 99)]), some ((0, 300), [], [(0, 299, (-1), 99)]), some ((0, 24), [], [(0, 23, (-1), 299)]), some ((0, 300), [], [(0, 299, (-1), 99)])]
set_option maxRecDepth 100000 in
noncomputable def p2_T15 : List (Option ((Nat × Nat) × List (Int × Nat) × List (Int × Int × Int × Int))) := [some ((0, 2408), [], [(0, 2407, 0, 1000)]), some ((0, 2408), [], [(0, 2407, 0, 1000)]), some ((0, 2408), [], [(0, 2407, (-1), 299)]), some ((0, 6), [], [(0, 5, (-2147483648), 2147483647)]), some ((0, 6), [], [(0, 5, (-2147483648), 2147483647)]), some ((2, 1), [], [])]
noncomputable def p2_T : ck_TT := [p2_T0, p2_T1, p2_T2, p2_T3, p2_T4, p2_T5, p2_T6, p2_T7, p2_T8, p2_T9, p2_T10, p2_T11, p2_T12, p2_T13, p2_T14, p2_T15]
set_option maxRecDepth 100000 in
noncomputable def p2_ty : List (Int × Int × Int × Int) := [(0, 0, 0, 6), (1, 1, 0, 99), (2, 3, 0, 8), (4, 4, 0, 24), (5, 5, 0, 8), (6, 6, 0, 6), (7, 7, 0, 12), (8, 8, 0, 1), (9, 9, 0, 299), (10, 10, 0, 98), (11, 11, 0, 9), (12, 12, (-1), 6), (13, 13, (-1), 9999), (14, 14, 0, 24), (15, 15, 0, 0), (16, 21, 0, 20), (22, 22, 0, 98), (23, 28, 0, 20), (29, 29, 0, 98), (30, 35, 0, 20), (36, 36, 0, 98), (37, 42, 0, 20), (43, 43, 0, 98), (44, 49, 0, 20), (50, 50, 0, 98), (51, 56, 0, 20), (57, 57, 0, 98), (58, 63, 0, 20), (64, 64, 0, 98), (65, 70, 0, 20), (71, 71, 0, 299), (72, 72, 0, 98), (73, 73, 0, 20), (74, 74, 0, 299), (75, 75, 0, 98), (76, 76, 0, 20), (77, 77, 0, 299), (78, 78, 0, 98), (79, 79, 0, 20), (80, 80, 0, 299), (81, 81, 0, 98), (82, 82, 0, 20), (83, 83, 0, 299), (84, 84, 0, 98), (85, 85, 0, 20), (86, 86, 0, 299), (87, 87, 0, 98), (88, 88, 0, 20), (89, 89, 0, 299), (90, 90, 0, 98), (91, 91, 0, 20), (92, 92, 0, 299), (93, 93, 0, 98), (94, 94, 0, 20), (95, 95, 0, 6), (96, 96, 0, 98), (97, 97, (-1), 6), (98, 98, 0, 6), (99, 99, 0, 98), (100, 100, (-1), 6), (101, 101, 0, 6), (102, 102, 0, 98), (103, 103, (-1), 6), (104, 104, 0, 6), (105, 105, 0, 98), (106, 106, (-1), 6), (107, 107, 0, 6), (108, 108, 0, 98), (109, 109, (-1), 6), (110, 110, 0, 6), (111, 111, 0, 98), (112, 112, (-1), 6), (113, 113, 0, 6), (114, 114, 0, 98), (115, 115, (-1), 6), (116, 116, 0, 6), (117, 117, 0, 98), (118, 118, (-1), 6), (119, 120, (-1), 7), (121, 121, 0, 6), (122, 122, 0, 299), (123, 123, 0, 98), (124, 124, (-1), 7), (125, 125, (-1), 299), (126, 127, (-1), 7), (128, 128, 0, 6), (129, 129, 0, 299), (130, 130, 0, 98), (131, 131, (-1), 7), (132, 132, (-1), 299), (133, 134, (-1), 7), (135, 135, 0, 6), (136, 136, 0, 299), (137, 137, 0, 98), (138, 138, (-1), 7), (139, 139, (-1), 299), (140, 141, (-1), 7), (142, 142, 0, 6), (143, 143, 0, 299), (144, 144, 0, 98), (145, 145, (-1), 7), (146, 146, (-1), 299), (147, 148, (-1), 7), (149, 149, 0, 6), (150, 150, 0, 299), (151, 151, 0, 98), (152, 152, (-1), 7), (153, 153, (-1), 299), (154, 155, (-1), 7), (156, 156, 0, 6), (157, 157, 0, 299), (158, 158, 0, 98), (159, 159, (-1), 7), (160, 160, (-1), 299), (161, 162, (-1), 7), (163, 163, 0, 6), (164, 164, 0, 299), (165, 165, 0, 98), (166, 166, (-1), 7), (167, 167, (-1), 299), (168, 169, (-1), 7), (170, 170, 0, 6), (171, 171, 0, 299), (172, 172, 0, 98), (173, 173, (-1), 7), (174, 174, (-1), 299), (175, 176, (-1), 7), (177, 177, 0, 6), (178, 178, 0, 299), (179, 179, 0, 98), (180, 180, (-1), 7), (181, 181, (-1), 299), (182, 183, (-1), 7), (184, 184, 0, 6), (185, 185, 0, 299), (186, 186, 0, 98), (187, 187, (-1), 7), (188, 188, (-1), 299), (189, 190, (-1), 7), (191, 191, 0, 6), (192, 192, 0, 299), (193, 193, 0, 98), (194, 194, (-1), 7), (195, 195, (-1), 299), (196, 197, (-1), 7), (198, 198, 0, 6), (199, 199, 0, 299), (200, 200, 0, 98), (201, 201, (-1), 7), (202, 202, (-1), 299), (203, 204, (-1), 7), (205, 205, 0, 6), (206, 206, 0, 299), (207, 207, 0, 98), (208, 208, (-1), 7), (209, 209, (-1), 299), (210, 211, (-1), 7), (212, 212, 0, 6), (213, 213, 0, 299), (214, 214, 0, 98), (215, 215, (-1), 7), (216, 216, (-1), 299), (217, 218, (-1), 7), (219, 219, 0, 6), (220, 220, 0, 299), (221, 221, 0, 98), (222, 222, (-1), 7), (223, 223, (-1), 299), (224, 225, (-1), 7), (226, 226, 0, 6), (227, 227, 0, 299), (228, 228, 0, 98), (229, 229, (-1), 7), (230, 230, (-1), 299), (231, 232, (-1), 7), (233, 233, 0, 6), (234, 234, 0, 299), (235, 235, 0, 98), (236, 236, (-1), 7), (237, 237, (-1), 299), (238, 239, (-1), 7), (240, 240, 0, 6), (241, 241, 0, 299), (242, 242, 0, 98), (243, 243, (-1), 7), (244, 244, (-1), 299), (245, 246, (-1), 7), (247, 247, 0, 6), (248, 248, 0, 299), (249, 249, 0, 98), (250, 250, (-1), 7), (251, 251, (-1), 299), (252, 253, (-1), 7), (254, 254, 0, 6), (255, 255, 0, 299), (256, 256, 0, 98), (257, 257, (-1), 7), (258, 258, (-1), 299), (259, 260, (-1), 7), (261, 261, 0, 6), (262, 262, 0, 299), (263, 263, 0, 98), (264, 264, (-1), 7), (265, 265, (-1), 299), (266, 267, (-1), 7), (268, 268, 0, 6), (269, 269, 0, 299), (270, 270, 0, 98), (271, 271, (-1), 7), (272, 272, (-1), 299), (273, 274, (-1), 7), (275, 275, 0, 6), (276, 276, 0, 299), (277, 277, 0, 98), (278, 278, (-1), 7), (279, 279, (-1), 299), (280, 281, (-1), 7), (282, 282, 0, 6), (283, 283, 0, 299), (284, 284, 0, 98), (285, 285, (-1), 7), (286, 286, (-1), 299), (287, 322, 0, 20), (323, 323, 0, 299), (324, 324, 0, 23), (325, 325, (-1), 7), (326, 326, 0, 299), (327, 327, 0, 23), (328, 328, (-1), 7), (329, 329, 0, 299), (330, 330, 0, 23), (331, 331, (-1), 7), (332, 332, 0, 299), (333, 333, 0, 23), (334, 334, (-1), 7), (335, 335, 0, 299), (336, 336, 0, 23), (337, 337, (-1), 7), (338, 338, 0, 299), (339, 339, 0, 23), (340, 340, (-1), 7), (341, 341, 0, 299), (342, 342, 0, 23), (343, 343, (-1), 7), (344, 344, 0, 299), (345, 345, 0, 23), (346, 346, (-1), 7), (347, 347, 0, 299), (348, 348, 0, 23), (349, 349, (-1), 7), (350, 350, 0, 299), (351, 351, 0, 23), (352, 352, (-1), 7), (353, 353, 0, 299), (354, 354, 0, 23), (355, 355, (-1), 7), (356, 356, 0, 299), (357, 357, 0, 23), (358, 358, (-1), 7), (359, 359, 0, 299), (360, 360, 0, 23), (361, 361, (-1), 7), (362, 362, 0, 299), (363, 363, 0, 23), (364, 364, (-1), 7), (365, 365, 0, 299), (366, 366, 0, 23), (367, 367, (-1), 7), (368, 368, 0, 299), (369, 369, 0, 23), (370, 370, (-1), 7), (371, 371, 0, 299), (372, 372, 0, 23), (373, 373, (-1), 7), (374, 374, 0, 299), (375, 375, 0, 23), (376, 376, (-1), 7), (377, 377, 0, 299), (378, 378, 0, 23), (379, 379, (-1), 7), (380, 380, 0, 299), (381, 381, 0, 23), (382, 382, (-1), 7), (383, 383, 0, 299), (384, 384, 0, 23), (385, 385, (-1), 7), (386, 386, 0, 299), (387, 387, 0, 23), (388, 388, (-1), 7), (389, 389, 0, 299), (390, 390, 0, 23), (391, 391, (-1), 7), (392, 392, 0, 299), (393, 393, 0, 23), (394, 394, (-1), 7)]
noncomputable def p2_nm : List (Nat × Nat × Int) := [(1, 226, 9), (2, 226, 15), (6, 1, 1), (7, 226, 8), (8, 226, 5), (9, 1, 6), (10, 3, 6), (11, 227, 9), (12, 214, 3), (13, 216, 3), (20, 227, 2), (21, 227, 3), (22, 227, 4), (23, 227, 5), (24, 227, 6), (25, 227, 7), (26, 227, 14), (27, 226, 6)]
noncomputable abbrev p2_O : gm_Or := ck_OT p2_T j_fp (j_J p2_ty) p2_nm j_h
theorem p2_nmk : p2_nm.all (fun q => decide (p2_nm.find? (fun p => p.1 == q.1) = some q)) = true := by decide +kernel
theorem p2_nmu : ck_nmu p2_O := fun q hq => of_decide_eq_true (List.all_eq_true.mp p2_nmk q hq)
end
/-! 40.jn -/
section
/-! PUTTING TOGETHER by hand: stops; the reference's flowAt where it reads one cell twice. -/
noncomputable def ck_O0 : gm_Or := (fun _ => none, fun _ _ => none, ⟨(fun _ => [], fun _ => [], fun _ _ => True, [], none), fun _ _ _ _ _ _ h => h, fun _ h => nomatch h⟩)
theorem ck_F0 {n : Nat} {K : gm_K} {R : gm_R} {M : gm_M} : gm_Fx ck_O0 n K R M := ⟨fun _ _ h => (nomatch h), fun _ _ _ h => (nomatch h), fun _ _ h => (nomatch h), fun _ _ h => (nomatch h), trivial⟩
section JN
variable {O : gm_Or} {X : Int → Int} {LX : Nat} {E : List (Nat × List ck_Sum)} {mi d n0 : Nat} {W : List (Nat × Int × Int) × List (Nat × Int)} {outs : List ck_Oc} {bc bs pc : Nat} {L : gm_L} {n : Nat} {K : gm_K} {R : gm_R} {M : gm_M} {AL : ck_AL} {F : ck_F} {σ : Nat → Int} {K0 : gm_K} {R0 : gm_R} {M0 : gm_M} {Q : gm_Q}
/-- a method walked up to stops -/
theorem ck_ok_st {cuts : List (Nat × ck_C)} {f : Nat} {S : ck_Sum} {ch : List ck_H} (hcu : ck_cu cuts = true) (hE : ck_nmu O ∧ ck_OkE O X LX E) (h : (decide (S.2.2.1.length ≤ gm_ml mi) && ck_go O none [] E mi S.1.1 S.2.1 S.2.2.2.2.1 S.2.2.2.2.2 cuts f false ch S.1.2.1 S.1.2.2 0 (S.2.2.1.map some ++ List.replicate (gm_ml mi - S.2.2.1.length) none) [] S.2.1 S.2.2.2.1) = true)
    (hch : ∀ h ∈ ch, (h.1, h.2.1) ∈ cuts ∧ ∀ (σ : Nat → Int) (K0 : gm_K) (R0 : gm_R) (M0 : gm_M), ck_Hy O X LX mi S.1.1 S.2.2.2.2.1 S.2.1 K0 R0 M0 (ck_Q O σ S.2.2.2.2.1 S.2.1 K0 R0 M0 S.2.2.2.2.2) σ h) : ck_Ok O X LX mi S := by
  intro d σ vs n K R M hd hn hvs _ hF hf
  simp only [Bool.and_eq_true, decide_eq_true_eq] at h
  obtain ⟨h2, h3⟩ := h
  subst hn
  obtain ⟨g1, g2⟩ := ck_ent hvs
  refine gm_Wp_wk hd (Nat.le_refl _) (Nat.le_refl _) (ck_go_s (σ0 := σ) hcu hE ck_X0 ck_l0 f false ch _ _ 0 _ [] _ _ σ _ [] K R M (fun _ _ => rfl) (fun z hz => ⟨(hch z hz).1, (hch z hz).2 σ K R M⟩) ⟨hF, ⟨?_, fun j b hb => ?_⟩, rfl, hf, ck_fr_0⟩ h3)
  · unfold gm_ent
    simp [g1]
  · unfold gm_ent
    rw [List.getElem?_append] at hb ⊢
    simp only [List.length_map] at hb ⊢
    split at hb
    · rename_i e
      rw [if_pos (by rw [← g1]; exact e)]
      rw [List.getElem?_map] at hb ⊢
      cases hq : S.2.2.1[j]? with
      | none => rw [hq] at hb; cases hb
      | some b' =>
        rw [hq] at hb
        cases hb
        obtain ⟨u, h4, h5⟩ := g2 j b hq
        exact ⟨u, by rw [h4]; rfl, h5⟩
    · exfalso
      have := List.mem_of_getElem? hb
      rw [List.mem_replicate] at this
      cases this.2
/-- flowAt of the reference, from its first look at the row to the second -/
theorem ck_flow {k fl : Nat} {t : Int} (hF : gm_Fx O n K R M) (hkk : O.1 k = some (15, 0)) (hfl : O.2.1 k 25 = some fl) (hfk : O.1 fl = some (1, 29700)) (h0 : L[0]? = some (some (gm_vr k))) (h4 : L[4]? = some (some (gm_vi t))) (ht : 0 ≤ t ∧ t < 29700) (hM : 0 ≤ M fl t ∧ M fl t ≤ 127) (hr : 0 < M fl t → Q (.inl (some (gm_vi (M fl t - 1)))) n K R M) (h34 : gm_Wp X LX d bc bs 292 34 L [] n K R M Q) : gm_Wp X LX d bc bs 292 14 L [] n K R M Q := by
  have hK1 := hF.1 k _ hkk
  have hK2 := hF.1 fl _ hfk
  have hR := (hF.2.1 k _ fl hfl).2
  have hw : gm_w t = t := gm_w_id (by omega) (by omega)
  have hkd : (K k).1 = 11 + 4 := by rw [hK1.2.2]
  have hfd : (K fl).1 = 1 := by rw [hK2.2.2]
  have hfi : 0 ≤ gm_w t ∧ gm_w t < (K fl).2 := by rw [hw, hK2.2.2]; exact ht
  have hif : (if gm_isr 11 25 = true then gm_vr (R k ((25 : Nat) : Int)) else gm_vi (M k ((25 : Nat) : Int))) = gm_vr fl := by
    rw [if_pos (by decide +kernel)]
    exact congrArg gm_vr hR
  refine gm_sp (gm_p_load (i := .aload_n 0) (sr := 2) (j := 0) (by decide +kernel) (by decide +kernel) h0 rfl) (Nat.zero_le _) (Nat.zero_le _) ?_
  refine gm_sp (pc' := 18) (gm_p_get (pc := 15) (ix := 42) (ci := 11) (j := 25) (by decide +kernel) ⟨hK1.1, hK1.2.1⟩ hkd (by decide +kernel)) (Nat.zero_le _) (Nat.zero_le _) ?_
  rw [hif]
  refine gm_sp (gm_p_load (i := .iload 4) (sr := 0) (j := 4) (by decide +kernel) (by decide +kernel) h4 rfl) (Nat.zero_le _) (Nat.zero_le _) ?_
  refine gm_sp (pc' := 21) (gm_p_bald (pc := 20) (by decide +kernel) ⟨hK2.1, hK2.2.1⟩ hfd hfi) (Nat.zero_le _) (Nat.zero_le _) ?_
  rw [hw]
  refine gm_b_if (cc := .le) (off := 13) (by decide +kernel) (by decide) (fun _ => h34) (fun hp => ?_)
  have hp : 0 < M fl t := by
    rw [gm_cm_w ⟨by omega, by omega⟩ ⟨by omega, by omega⟩] at hp
    have hp : ¬ M fl t ≤ 0 := hp
    omega
  refine gm_sp (pc' := 25) (gm_p_load (pc := 24) (i := .aload_n 0) (sr := 2) (j := 0) (by decide +kernel) (by decide +kernel) h0 rfl) (Nat.zero_le _) (Nat.zero_le _) ?_
  refine gm_sp (pc' := 28) (gm_p_get (pc := 25) (ix := 42) (ci := 11) (j := 25) (by decide +kernel) ⟨hK1.1, hK1.2.1⟩ hkd (by decide +kernel)) (Nat.zero_le _) (Nat.zero_le _) ?_
  rw [hif]
  refine gm_sp (pc' := 30) (gm_p_load (pc := 28) (i := .iload 4) (sr := 0) (j := 4) (by decide +kernel) (by decide +kernel) h4 rfl) (Nat.zero_le _) (Nat.zero_le _) ?_
  refine gm_sp (pc' := 31) (gm_p_bald (pc := 30) (by decide +kernel) ⟨hK2.1, hK2.2.1⟩ hfd hfi) (Nat.zero_le _) (Nat.zero_le _) ?_
  rw [hw]
  refine gm_sp (pc' := 32) (gm_p_const (pc := 31) (i := .iconst 1) (v := gm_vi 1) (by decide +kernel) rfl) (Nat.zero_le _) (Nat.zero_le _) ?_
  refine gm_sp (pc' := 33) (gm_p_bin (pc := 32) (i := .isub) (f := fun x y => x - y) (by decide +kernel) rfl) (Nat.zero_le _) (Nat.zero_le _) ?_
  exact gm_r_int (by decide +kernel) (Or.inl (by decide +kernel)) (hr hp)
end JN
end
/-! 42.cp -/
section
/-! COPIES from one row to another, number by number: the loop ends with a closed form. -/
noncomputable def gm_cpy (M : gm_M) (A B : Nat) (a b i : Int) : gm_M := fun c j => if c = A ∧ a ≤ j ∧ j < a + i then M B (j - a + b) else M c j
theorem gm_cpy_0 {M : gm_M} {A B : Nat} {a b : Int} : gm_cpy M A B a b 0 = M := by
  funext c j
  unfold gm_cpy
  rw [if_neg (by omega)]
theorem gm_cpy_ne {M : gm_M} {A B c : Nat} {a b i j : Int} (h : ¬ c = A) : gm_cpy M A B a b i c j = M c j := by
  unfold gm_cpy
  rw [if_neg (fun e => h e.1)]
theorem gm_cpy_out {M : gm_M} {A B c : Nat} {a b i j : Int} (h : ¬ (a ≤ j ∧ j < a + i)) : gm_cpy M A B a b i c j = M c j := by
  unfold gm_cpy
  rw [if_neg (fun e => h e.2)]
theorem gm_cpy_in {M : gm_M} {A B : Nat} {a b i j : Int} (h : a ≤ j ∧ j < a + i) : gm_cpy M A B a b i A j = M B (j - a + b) := by
  unfold gm_cpy
  rw [if_pos ⟨rfl, h⟩]
theorem gm_cpy_s {M : gm_M} {A B : Nat} {a b i : Int} (h : A = B → a ≤ b) (hi : 0 ≤ i) : gm_uM (gm_cpy M A B a b i) A (a + i) (gm_cpy M A B a b i B (b + i)) = gm_cpy M A B a b (i + 1) := by
  have h1 : gm_cpy M A B a b i B (b + i) = M B (b + i) := by
    unfold gm_cpy
    rw [if_neg]
    rintro ⟨e, h2, h3⟩
    have := h e.symm
    omega
  rw [h1]
  funext c j
  unfold gm_uM
  by_cases e : c = A ∧ j = a + i
  · rw [if_pos e]
    obtain ⟨rfl, rfl⟩ := e
    rw [gm_cpy_in ⟨by omega, by omega⟩]
    congr 1
    omega
  · rw [if_neg e]
    unfold gm_cpy
    by_cases e2 : c = A ∧ a ≤ j ∧ j < a + i
    · rw [if_pos e2, if_pos ⟨e2.1, e2.2.1, by omega⟩]
    · rw [if_neg e2, if_neg]
      rintro ⟨e3, e4, e5⟩
      refine e2 ⟨e3, e4, ?_⟩
      have : ¬ j = a + i := fun e6 => e ⟨e3, e6⟩
      omega
section CP
variable {X : Int → Int} {LX d bc bs mi pc : Nat} {L : gm_L} {st : List gm_V} {n : Nat} {K : gm_K} {R : gm_R} {M : gm_M} {Q : gm_Q}
theorem cp_lst {L : gm_L} {v : Nat} {x y : Int} (hv : 1 ≤ v) (lw : ∃ w, L[v - 1]? = some (some w) ∧ ¬ gm_sort w = 1) : gm_lst (L.set v (some (gm_vi x))) v (gm_vi y) = L.set v (some (gm_vi y)) := by
  obtain ⟨w, hw, hs⟩ := lw
  obtain ⟨v, rfl⟩ : ∃ u, v = u + 1 := ⟨v - 1, by omega⟩
  have hw : L[v]? = some (some w) := hw
  have h1 : (L.set (v + 1) (some (gm_vi x)))[v]? = some (some w) := by
    rw [List.getElem?_set, if_neg (by omega), hw]
  have h2 : gm_lc (L.set (v + 1) (some (gm_vi x))) (v + 1) = L.set (v + 1) (some (gm_vi x)) := by
    show (match (L.set (v + 1) (some (gm_vi x)))[v]? with
      | some (some (.inr (.inl _))) => (L.set (v + 1) (some (gm_vi x))).set v none
      | _ => L.set (v + 1) (some (gm_vi x))) = _
    rw [h1]
    rcases w with z | z | z
    · rfl
    · exact absurd rfl hs
    · rfl
  show (gm_lc (L.set (v + 1) (some (gm_vi x))) (v + 1)).set (v + 1) (some (gm_vi y)) = _
  rw [h2, List.set_set]
theorem cp_set0 {L : gm_L} {v : Nat} {x : Int} (lv : L[v]? = some (some (gm_vi x))) : L.set v (some (gm_vi x)) = L := by
  apply List.ext_getElem?
  intro i
  rw [List.getElem?_set]
  split
  · rename_i e
    subst e
    rw [lv]
    split
    · rfl
    · rename_i h
      rw [List.getElem?_eq_none (by omega)] at lv
      cases lv
  · rfl
theorem cp_getv {L : gm_L} {v : Nat} {x y : Int} (lv : L[v]? = some (some (gm_vi x))) : (L.set v (some (gm_vi y)))[v]? = some (some (gm_vi y)) := by
  rw [List.getElem?_set, if_pos rfl, if_pos]
  exact (List.getElem?_eq_some_iff.mp lv).1
theorem cp_get0 {L : gm_L} {v : Nat} {w : Option gm_V} {y : Int} (hv : 1 ≤ v) (l0 : L[0]? = some w) : (L.set v (some (gm_vi y)))[0]? = some w := by
  rw [List.getElem?_set, if_neg (by omega), l0]
theorem cp_ld {iv : Instr} {v : Nat} {x y : Int} {m : gm_M} (hiv : gm_load iv = some (0, v) ∧ gm_len iv = 1) (lv : L[v]? = some (some (gm_vi x))) (h : gm_at mi pc = some iv) : gm_Sp X LX d mi pc (L.set v (some (gm_vi y))) st n K R m (pc + 1) (L.set v (some (gm_vi y))) (gm_vi y :: st) n K R m 0 0 := by
  have := gm_p_load (X := X) (LX := LX) (d := d) (st := st) (n := n) (K := K) (R := R) (M := m) h hiv.1 (cp_getv lv (y := y)) rfl
  rw [hiv.2] at this
  exact this
/-- from pc to pc' the number a + i is laid on the stack -/
noncomputable def cp_sg (X : Int → Int) (LX d bc bs mi n : Nat) (K : gm_K) (R : gm_R) (M : gm_M) (mo v : Nat) (L : gm_L) (pc pc' : Nat) (a : Int) : Prop := ∀ (i : Int) (m : gm_M) (st : List gm_V) (Q : gm_Q), (∀ j, m mo j = M mo j) → gm_Wp X LX d bc bs mi pc' (L.set v (some (gm_vi i))) (gm_vi (a + i) :: st) n K R m Q → gm_Wp X LX d bc bs mi pc (L.set v (some (gm_vi i))) st n K R m Q
theorem cp_sg_i {iv : Instr} {mo v : Nat} {x : Int} (lv : L[v]? = some (some (gm_vi x))) (hiv : gm_load iv = some (0, v) ∧ gm_len iv = 1) (h : gm_at mi pc = some iv) : cp_sg X LX d bc bs mi n K R M mo v L pc (pc + 1) 0 := by
  intro i m st Q _ k
  rw [Int.zero_add] at k
  exact gm_sz (cp_ld hiv lv h) k
theorem cp_sg_ci {iv : Instr} {mo v : Nat} {x c : Int} (lv : L[v]? = some (some (gm_vi x))) (hiv : gm_load iv = some (0, v) ∧ gm_len iv = 1) (hc : gm_ws c = c) (h1 : gm_at mi pc = some (.sipush c)) (h2 : gm_at mi (pc + 3) = some iv) (h3 : gm_at mi (pc + 4) = some .iadd) : cp_sg X LX d bc bs mi n K R M mo v L pc (pc + 5) c := by
  intro i m st Q _ k
  refine gm_sz (gm_p_const (i := .sipush c) (v := gm_vi (gm_ws c)) h1 rfl) ?_
  rw [hc]
  refine gm_sz (cp_ld hiv lv h2) ?_
  exact gm_sz (gm_p_bin (pc := pc + 4) (i := .iadd) (f := fun x y => x + y) h3 rfl) k
theorem cp_sg_ic {iv : Instr} {mo v : Nat} {x c : Int} (lv : L[v]? = some (some (gm_vi x))) (hiv : gm_load iv = some (0, v) ∧ gm_len iv = 1) (hc : gm_ws c = c) (h1 : gm_at mi pc = some iv) (h2 : gm_at mi (pc + 1) = some (.sipush c)) (h3 : gm_at mi (pc + 4) = some .iadd) : cp_sg X LX d bc bs mi n K R M mo v L pc (pc + 5) c := by
  intro i m st Q _ k
  refine gm_sz (cp_ld hiv lv h1) ?_
  refine gm_sz (gm_p_const (pc := pc + 1) (i := .sipush c) (v := gm_vi (gm_ws c)) h2 rfl) ?_
  rw [hc]
  refine gm_sz (gm_p_bin (pc := pc + 4) (i := .iadd) (f := fun x y => x + y) h3 rfl) ?_
  rw [Int.add_comm c i] at k
  exact k
theorem cp_sg_cr {iv : Instr} {mo v ix j : Nat} {x c : Int} (hv : 1 ≤ v) (l0 : L[0]? = some (some (gm_vr mo))) (lv : L[v]? = some (some (gm_vi x))) (hiv : gm_load iv = some (0, v) ∧ gm_len iv = 1) (hc : gm_ws c = c) (hmo : (1 ≤ mo ∧ mo ≤ n) ∧ (K mo).1 = 11 + 4) (hf : gm_fld (gm_ow mi) ix 11 = some j) (hr : gm_isr 11 j = false)
    (h1 : gm_at mi pc = some (.sipush c)) (h2 : gm_at mi (pc + 3) = some (.aload_n 0)) (h3 : gm_at mi (pc + 4) = some (.getfield ix)) (h4 : gm_at mi (pc + 7) = some .imul) (h5 : gm_at mi (pc + 8) = some iv) (h6 : gm_at mi (pc + 9) = some .iadd) : cp_sg X LX d bc bs mi n K R M mo v L pc (pc + 10) (c * M mo j) := by
  intro i m st Q hm k
  refine gm_sz (gm_p_const (i := .sipush c) (v := gm_vi (gm_ws c)) h1 rfl) ?_
  rw [hc]
  refine gm_sz (gm_p_load (pc := pc + 3) (i := .aload_n 0) (sr := 2) (j := 0) h2 rfl (cp_get0 hv l0) rfl) ?_
  refine gm_sz (gm_p_get (pc := pc + 4) h3 hmo.1 hmo.2 hf) ?_
  rw [if_neg (by rw [hr]; exact Bool.false_ne_true), hm]
  refine gm_sz (gm_p_bin (pc := pc + 7) (i := .imul) (f := fun x y => x * y) h4 rfl) ?_
  refine gm_sz (cp_ld hiv lv h5) ?_
  exact gm_sz (gm_p_bin (pc := pc + 9) (i := .iadd) (f := fun x y => x + y) h6 rfl) k
theorem cp_sg_cr1 {iv : Instr} {mo v ix j : Nat} {x c : Int} (hv : 1 ≤ v) (l0 : L[0]? = some (some (gm_vr mo))) (lv : L[v]? = some (some (gm_vi x))) (hiv : gm_load iv = some (0, v) ∧ gm_len iv = 1) (hc : gm_ws c = c) (hmo : (1 ≤ mo ∧ mo ≤ n) ∧ (K mo).1 = 11 + 4) (hf : gm_fld (gm_ow mi) ix 11 = some j) (hr : gm_isr 11 j = false)
    (h1 : gm_at mi pc = some (.sipush c)) (h2 : gm_at mi (pc + 3) = some (.aload_n 0)) (h3 : gm_at mi (pc + 4) = some (.getfield ix)) (h7 : gm_at mi (pc + 7) = some (.iconst 1)) (h8 : gm_at mi (pc + 8) = some .isub) (h4 : gm_at mi (pc + 9) = some .imul) (h5 : gm_at mi (pc + 10) = some iv) (h6 : gm_at mi (pc + 11) = some .iadd) : cp_sg X LX d bc bs mi n K R M mo v L pc (pc + 12) (c * (M mo j - 1)) := by
  intro i m st Q hm k
  refine gm_sz (gm_p_const (i := .sipush c) (v := gm_vi (gm_ws c)) h1 rfl) ?_
  rw [hc]
  refine gm_sz (gm_p_load (pc := pc + 3) (i := .aload_n 0) (sr := 2) (j := 0) h2 rfl (cp_get0 hv l0) rfl) ?_
  refine gm_sz (gm_p_get (pc := pc + 4) h3 hmo.1 hmo.2 hf) ?_
  rw [if_neg (by rw [hr]; exact Bool.false_ne_true), hm]
  refine gm_sz (gm_p_const (pc := pc + 7) (i := .iconst 1) (v := gm_vi 1) h7 rfl) ?_
  refine gm_sz (gm_p_bin (pc := pc + 8) (i := .isub) (f := fun x y => x - y) h8 rfl) ?_
  refine gm_sz (gm_p_bin (pc := pc + 9) (i := .imul) (f := fun x y => x * y) h4 rfl) ?_
  refine gm_sz (cp_ld hiv lv h5) ?_
  exact gm_sz (gm_p_bin (pc := pc + 11) (i := .iadd) (f := fun x y => x + y) h6 rfl) k
/-- THE LOOP -/
theorem cp_lp {iv : Instr} {v ixA ixB jA jB A B mo p qA qB : Nat} {N a b offe offb : Int} (hv : 1 ≤ v) (hmo : (1 ≤ mo ∧ mo ≤ n) ∧ (K mo).1 = 11 + 4) (hA : (1 ≤ A ∧ A ≤ n) ∧ (K A).1 = 0) (hB : (1 ≤ B ∧ B ≤ n) ∧ (K B).1 = 0) (rA : R mo jA = A) (rB : R mo jB = B) (fA : gm_fld (gm_ow mi) ixA 11 = some jA) (fB : gm_fld (gm_ow mi) ixB 11 = some jB) (sA : gm_isr 11 jA = true) (sB : gm_isr 11 jB = true)
    (bnd : (0 ≤ N ∧ N < 100000) ∧ (0 ≤ a ∧ a + N ≤ (K A).2) ∧ (0 ≤ b ∧ b + N ≤ (K B).2) ∧ (K A).2 < 100000 ∧ (K B).2 < 100000) (hab : A = B → a ≤ b) (hmA : ¬ mo = A) (hN : gm_ws N = N) (l0 : L[0]? = some (some (gm_vr mo))) (lv : L[v]? = some (some (gm_vi 0))) (hiv : gm_load iv = some (0, v) ∧ gm_len iv = 1) (lw : ∃ w, L[v - 1]? = some (some w) ∧ ¬ gm_sort w = 1)
    (c0 : gm_at mi p = some iv) (c1 : gm_at mi (p + 1) = some (.sipush N)) (c2 : gm_at mi (p + 4) = some (.if_icmp .ge offe)) (c3 : 0 ≤ ((p + 4 : Nat) : Int) + offe) (c4 : gm_at mi (p + 7) = some (.aload_n 0)) (c5 : gm_at mi (p + 8) = some (.getfield ixA)) (gA : cp_sg X LX d bc bs mi n K R M mo v L (p + 11) qA a) (c6 : gm_at mi qA = some (.aload_n 0)) (c7 : gm_at mi (qA + 1) = some (.getfield ixB)) (gB : cp_sg X LX d bc bs mi n K R M mo v L (qA + 4) qB b) (c8 : gm_at mi qB = some .iaload) (c9 : gm_at mi (qB + 1) = some .iastore) (c10 : gm_at mi (qB + 2) = some (.iinc v 1)) (c11 : gm_at mi (qB + 5) = some (.goto offb)) (c12 : 0 ≤ ((qB + 5 : Nat) : Int) + offb) (c13 : gm_tgt (qB + 5) offb = p)
    (hx : gm_Wp X LX d bc bs mi (gm_tgt (p + 4) offe) (L.set v (some (gm_vi N))) [] n K R (gm_cpy M A B a b N) Q) : gm_Wp X LX d bc bs mi p L [] n K R M Q := by
  obtain ⟨⟨n1, n2⟩, ⟨a1, a2⟩, ⟨b1, b2⟩, k1, k2⟩ := bnd
  have key : ∀ (k : Nat) (i : Int), 0 ≤ i → i ≤ N → N - i = (k : Int) → gm_Wp X LX d bc bs mi p (L.set v (some (gm_vi i))) [] n K R (gm_cpy M A B a b i) Q := by
    intro k
    induction k with
    | zero =>
      intro i h1 h2 h3
      have e : i = N := by omega
      subst e
      refine gm_sz (cp_ld hiv lv c0) ?_
      refine gm_sz (gm_p_const (pc := p + 1) (i := .sipush i) (v := gm_vi (gm_ws i)) c1 rfl) ?_
      rw [hN]
      exact gm_b_ic (pc := p + 4) c2 c3 (fun _ => hx) (fun hp => absurd (show gm_w i ≤ gm_w i from Int.le_refl _) hp)
    | succ k ih =>
      intro i h1 h2 h3
      have w1 : gm_w i = i := gm_w_id (by omega) (by omega)
      have w2 : gm_w N = N := gm_w_id (by omega) (by omega)
      have w3 : gm_w (a + i) = a + i := gm_w_id (by omega) (by omega)
      have w4 : gm_w (b + i) = b + i := gm_w_id (by omega) (by omega)
      have hm : ∀ j, gm_cpy M A B a b i mo j = M mo j := fun j => gm_cpy_ne hmA
      refine gm_sz (cp_ld hiv lv c0) ?_
      refine gm_sz (gm_p_const (pc := p + 1) (i := .sipush N) (v := gm_vi (gm_ws N)) c1 rfl) ?_
      rw [hN]
      refine gm_b_ic (pc := p + 4) c2 c3 (fun hp => ?_) (fun _ => ?_)
      · have hp : gm_w N ≤ gm_w i := hp
        omega
      refine gm_sz (gm_p_load (pc := p + 7) (i := .aload_n 0) (sr := 2) (j := 0) c4 rfl (cp_get0 hv l0) rfl) ?_
      refine gm_sz (gm_p_get (pc := p + 8) c5 hmo.1 hmo.2 fA) ?_
      rw [if_pos sA, rA]
      refine gA i _ _ _ hm ?_
      refine gm_sz (gm_p_load (pc := qA) (i := .aload_n 0) (sr := 2) (j := 0) c6 rfl (cp_get0 hv l0) rfl) ?_
      refine gm_sz (gm_p_get (pc := qA + 1) c7 hmo.1 hmo.2 fB) ?_
      rw [if_pos sB, rB]
      refine gB i _ _ _ hm ?_
      refine gm_sz (gm_p_iald (pc := qB) c8 hB.1 hB.2 (by rw [w4]; omega)) ?_
      rw [w4]
      refine gm_sz (gm_p_iast (pc := qB + 1) c9 hA.1 hA.2 (by rw [w3]; omega)) ?_
      rw [w3]
      refine gm_sz (gm_p_iinc (pc := qB + 2) c10 (cp_getv lv)) ?_
      refine gm_sz (gm_p_goto (pc := qB + 5) c11 c12) ?_
      rw [cp_lst hv lw, c13, gm_cpy_s hab h1]
      exact ih (i + 1) (by omega) (by omega) (by omega)
  have h := key N.toNat 0 (Int.le_refl _) n1 (by omega)
  rw [cp_set0 lv, gm_cpy_0] at h
  exact h
end CP
section CQ
variable {O : gm_Or} {X : Int → Int} {LX : Nat} {E : List (Nat × List ck_Sum)} {mi d n0 : Nat} {W : List (Nat × Int × Int) × List (Nat × Int)} {outs : List ck_Oc} {σ σ0 : Nat → Int} {K0 : gm_K} {R0 : gm_R} {M0 : gm_M} {n : Nat} {K : gm_K} {R : gm_R} {M : gm_M} {F : ck_F}
theorem gm_Fx_cpy {A B : Nat} {a b N : Int} (hF : gm_Fx O n K R M) (ht : ∀ r ∈ O.2.2.ty A, ∀ j, r.1 ≤ j → j ≤ r.2.1 → a ≤ j → j < a + N → (-2147483648 ≤ M B (j - a + b) ∧ M B (j - a + b) < 2147483648) ∧ r.2.2.1 ≤ M B (j - a + b) ∧ M B (j - a + b) ≤ r.2.2.2) (hJ : O.2.2.J K (gm_cpy M A B a b N)) : gm_Fx O n K R (gm_cpy M A B a b N) := by
  refine ⟨hF.1, hF.2.1, fun c r hr => ?_, hF.2.2.2.1, hJ⟩
  obtain ⟨g1, g2⟩ := hF.2.2.1 c r hr
  refine ⟨g1, fun j h1 h2 => ?_⟩
  unfold gm_cpy
  split
  · rename_i e
    obtain ⟨rfl, e1, e2⟩ := e
    exact ht r hr j h1 h2 e1 e2
  · exact g2 j h1 h2
/-- the types of what is copied are within the types of where it goes -/
noncomputable def cp_tc (O : gm_Or) (A B : Nat) (a b N : Int) : Bool := (O.2.2.ty A).all fun r => decide (r.2.1 < a) || (decide (a + N ≤ r.1) || (match gm_tyr O B ((if a ≤ r.1 then r.1 else a) - a + b) ((if r.2.1 < a + N then r.2.1 else a + N - 1) - a + b) with
  | some q => decide (r.2.2.1 ≤ q.1) && decide (q.2 ≤ r.2.2.2)
  | none => false))
theorem cp_tc_s {A B : Nat} {a b N : Int} (hF : gm_Fx O n K R M) (h : cp_tc O A B a b N = true) : ∀ r ∈ O.2.2.ty A, ∀ j, r.1 ≤ j → j ≤ r.2.1 → a ≤ j → j < a + N → (-2147483648 ≤ M B (j - a + b) ∧ M B (j - a + b) < 2147483648) ∧ r.2.2.1 ≤ M B (j - a + b) ∧ M B (j - a + b) ≤ r.2.2.2 := by
  intro r hr j h1 h2 h3 h4
  have h5 := List.all_eq_true.mp h r hr
  rw [Bool.or_eq_true, Bool.or_eq_true, decide_eq_true_eq, decide_eq_true_eq] at h5
  rcases h5 with h5 | h5 | h5
  · omega
  · omega
  · split at h5
    · rename_i q hq
      rw [Bool.and_eq_true, decide_eq_true_eq, decide_eq_true_eq] at h5
      obtain ⟨-, h6⟩ := gm_tyr_s hF hq
      have h7 := h6 (j - a + b) (by split <;> omega) (by split <;> omega)
      exact ⟨h7.1, Int.le_trans h5.1 h7.2.1, Int.le_trans h7.2.2 h5.2⟩
    · cases h5
theorem ck_fr_cpy {A B : Nat} {a b N wa wb : Int} (h : ck_fr W n0 K0 R0 M0 n K R M) (hw : ck_okW W.1 n0 A wa wb = true) (h1 : wa ≤ a) (h2 : a + N ≤ wb + 1) : ck_fr W n0 K0 R0 M0 n K R (gm_cpy M A B a b N) := by
  refine ⟨h.1, h.2.1, fun k j hk hb => ?_, h.2.2.2⟩
  rw [← h.2.2.1 k j hk hb]
  unfold gm_cpy
  rw [if_neg]
  rintro ⟨rfl, e1, e2⟩
  rw [ck_okW_def] at hw
  simp only [Bool.or_eq_true, decide_eq_true_eq, List.any_eq_true, Bool.and_eq_true, beq_iff_eq] at hw
  rcases hw with hw | ⟨w, hw1, hw2, hw3, hw4⟩
  · omega
  · exact hb w hw1 ⟨hw2, by omega, by omega⟩
theorem ck_gf_cpy {A B : Nat} {a b N wa wb : Int} (h : ck_gf σ F n K R M) (h1 : wa ≤ a) (h2 : a + N ≤ wb + 1) : ck_gf σ (F.1, F.2.1, ck_cws [(A, wa, wb)] F.2.2) n K R (gm_cpy M A B a b N) := by
  refine ⟨h.1, h.2.1, fun q hq => ?_⟩
  obtain ⟨p, hp, e1, e2, e3⟩ := ck_cws_s (ws := [(A, wa, wb)]) (l := F.2.2) hq
  have h3 := h.2.2 p hp
  refine ⟨by rw [e1]; exact h3.1, fun j h4 h5 => ?_⟩
  obtain ⟨h6, h7⟩ := e3 j h4 h5
  have h8 := h7 (A, wa, wb) List.mem_cons_self
  have h9 : gm_cpy M A B a b N q.1 j = M p.1 j := by
    rw [e1]
    unfold gm_cpy
    rw [if_neg]
    rintro ⟨e4, e5, e6⟩
    exact h8 ⟨e4.symm, by dsimp only; omega, by dsimp only; omega⟩
  rw [h9, e2]
  exact h3.2 j h6.1 h6.2
theorem ck_gl_set {AL : ck_AL} {L : gm_L} {v : Nat} {N : Int} (hN : gm_ir N) (h : ck_gl σ AL L) : ck_gl σ (AL.set v (some (.inl (ck_one N)))) (L.set v (some (gm_vi N))) := ck_set h ⟨N, rfl, hN, ck_one_s N⟩
/-- A COPY on the way: what is known behind it -/
theorem ck_cpH {p pc' v A B f : Nat} {N wa wb : Int} {c : ck_C} {bc0 bs0 : Nat} {ch : List ck_H} {cuts : List (Nat × ck_C)} (hcu : ck_cu cuts = true) (hE : ck_nmu O ∧ ck_OkE O X LX E) (hσ : ∀ s, s < 100 → σ s = σ0 s) (hN : gm_ir N) (hw : ck_okW W.1 n0 A wa wb = true)
    (hl : ∀ (bc bs : Nat) (L : gm_L) (K : gm_K) (R : gm_R) (M : gm_M), ck_St O σ W n0 K0 R0 M0 c.1 [] c.2.1 L [] n K R M → ∃ a b : Int, (wa ≤ a ∧ a + N ≤ wb + 1) ∧ gm_Fx O n K R (gm_cpy M A B a b N) ∧ ∀ Q, gm_Wp X LX d bc bs mi pc' (L.set v (some (gm_vi N))) [] n K R (gm_cpy M A B a b N) Q → gm_Wp X LX d bc bs mi p L [] n K R M Q)
    (hgo : ck_go O none [] E mi d n0 W outs cuts f false ch bc0 bs0 pc' (c.1.set v (some (.inl (ck_one N)))) [] n (c.2.1.1, c.2.1.2.1, ck_cws [(A, wa, wb)] c.2.1.2.2) = true)
    (hch : ∀ h ∈ ch, (h.1, h.2.1) ∈ cuts ∧ ck_Hy O X LX mi d W n0 K0 R0 M0 (ck_Q O σ0 W n0 K0 R0 M0 outs) σ h) : ck_Hy O X LX mi d W n0 K0 R0 M0 (ck_Q O σ0 W n0 K0 R0 M0 outs) σ (p, c, bc0, bs0, n) := by
  intro x _ bc bs L K R M hb1 hb2 hS _
  obtain ⟨a, b, ⟨h1, h2⟩, h3, h4⟩ := hl bc bs L K R M hS
  obtain ⟨f1, f2, f3, f4, f5⟩ := hS
  refine h4 _ (gm_Wp_wk (Nat.le_refl _) hb1 hb2 (ck_go_s (σ0 := σ0) hcu hE ck_X0 ck_l0 f false ch _ _ _ _ [] _ _ σ _ [] K R _ hσ hch ⟨h3, ck_gl_set hN f2, rfl, ck_gf_cpy f4 h1 h2, ck_fr_cpy f5 hw h1 h2⟩ hgo))
end CQ
end
/-! 43.jj -/
section
/-! COPIES between the world, the image, what was ahead and what is remembered: what is said of memory stays. -/
theorem gm_cpy_f {M : gm_M} {A B c : Nat} {a b i : Int} (h : ¬ c = A) : gm_cpy M A B a b i c = M c := funext fun _ => gm_cpy_ne h
theorem gm_cpy_at {M : gm_M} {A B : Nat} {a b i j x : Int} (h : a ≤ j ∧ j < a + i) (e : j - a + b = x) : gm_cpy M A B a b i A j = M B x := by
  rw [gm_cpy_in h, e]
section JJ
variable {t : List (Int × Int × Int × Int)} {K : gm_K} {M : gm_M}
theorem jj_image (h : j_J t K M) : j_J t K (gm_cpy M 228 227 0 0 1244) := by
  unfold j_J at h ⊢
  rw [gm_cpy_f (by decide : ¬ 227 = 228), gm_cpy_f (by decide : ¬ 229 = 228), gm_cpy_f (by decide : ¬ 230 = 228)]
  exact j_image h fun j h1 h2 => gm_cpy_at ⟨h1, by omega⟩ (by omega)
theorem jj_before (h : j_J t K M) : j_J t K (gm_cpy M 229 227 0 0 1244) := by
  unfold j_J at h ⊢
  rw [gm_cpy_f (by decide : ¬ 227 = 229), gm_cpy_f (by decide : ¬ 228 = 229), gm_cpy_f (by decide : ¬ 230 = 229)]
  exact j_before h fun j h1 h2 => gm_cpy_at ⟨h1, by omega⟩ (by omega)
theorem jj_back (h : j_J t K M) : j_J t K (gm_cpy M 227 228 0 0 1244) := by
  unfold j_J at h ⊢
  rw [gm_cpy_f (by decide : ¬ 228 = 227), gm_cpy_f (by decide : ¬ 229 = 227), gm_cpy_f (by decide : ¬ 230 = 227)]
  exact j_back h fun j h1 h2 => gm_cpy_at ⟨h1, by omega⟩ (by omega)
theorem jj_again (h : j_J t K M) : j_J t K (gm_cpy M 227 229 0 0 1244) := by
  unfold j_J at h ⊢
  rw [gm_cpy_f (by decide : ¬ 228 = 227), gm_cpy_f (by decide : ¬ 229 = 227), gm_cpy_f (by decide : ¬ 230 = 227)]
  exact j_again h fun j h1 h2 => gm_cpy_at ⟨h1, by omega⟩ (by omega)
theorem jj_undo {y : Int} (h : j_J t K M) (hy : 0 ≤ y ∧ y < 12) : j_J t K (gm_cpy M 227 230 0 (395 * y) 395) := by
  unfold j_J at h ⊢
  rw [gm_cpy_f (by decide : ¬ 228 = 227), gm_cpy_f (by decide : ¬ 229 = 227), gm_cpy_f (by decide : ¬ 230 = 227)]
  exact j_undo h hy (fun j h1 h2 => gm_cpy_at ⟨h1, by omega⟩ (by omega)) fun j h1 h2 => gm_cpy_out (by omega)
theorem jj_shift (h : j_J t K M) : j_J t K (gm_cpy M 230 230 0 395 4345) := by
  unfold j_J at h ⊢
  rw [gm_cpy_f (by decide : ¬ 227 = 230), gm_cpy_f (by decide : ¬ 228 = 230), gm_cpy_f (by decide : ¬ 229 = 230)]
  exact j_shift h (fun j h1 h2 => gm_cpy_at ⟨h1, by omega⟩ (by omega)) fun j h1 h2 => gm_cpy_out (by omega)
theorem jj_store {y : Int} (h : j_J t K M) (hy : 0 ≤ y) (ht : ∀ r ∈ t, ∀ j, r.1 ≤ j → j ≤ r.2.1 → 0 ≤ j → j < 395 → (-2147483648 ≤ M 227 j ∧ M 227 j < 2147483648) ∧ r.2.2.1 ≤ M 227 j ∧ M 227 j ≤ r.2.2.2) : j_J t K (gm_cpy M 230 227 (395 * y) 0 395) := by
  unfold j_J at h ⊢
  rw [gm_cpy_f (by decide : ¬ 227 = 230), gm_cpy_f (by decide : ¬ 228 = 230), gm_cpy_f (by decide : ¬ 229 = 230)]
  exact j_store (y0 := y) h ht (fun j h1 h2 => gm_cpy_at (a := 395 * y) (b := 0) (i := 395) (j := 395 * y + j) (x := j) ⟨by omega, by omega⟩ (by omega)) fun j h1 => gm_cpy_out (by omega)
end JJ
/-! the reference's own rows -/
theorem md_o : (p2_O.1 226 = some (15, 0) ∧ p2_O.1 227 = some (0, 2093)) ∧ (p2_O.1 228 = some (0, 1244) ∧ p2_O.1 229 = some (0, 1244)) ∧ p2_O.1 230 = some (0, 4740) := by decide +kernel
theorem md_r : (p2_O.2.1 226 ((1 : Nat) : Int) = some 227 ∧ p2_O.2.1 226 ((2 : Nat) : Int) = some 228) ∧ (p2_O.2.1 226 ((3 : Nat) : Int) = some 229 ∧ p2_O.2.1 226 ((4 : Nat) : Int) = some 230) := by decide +kernel
theorem md_tk : (p2_O.2.2.ty 227).take 295 = p2_ty := by decide +kernel
theorem md_td : ((p2_O.2.2.ty 227).drop 295).all (fun r => decide (395 ≤ r.1)) = true := by decide +kernel
theorem md_t1 : (p2_O.2.2.ty 227).all (fun r => decide (395 ≤ r.1) || decide (r ∈ p2_ty)) = true := List.all_eq_true.mpr fun r hr => by
  have h2 : r ∈ (p2_O.2.2.ty 227).take 295 ++ (p2_O.2.2.ty 227).drop 295 := by rw [List.take_append_drop]; exact hr
  show (decide (395 ≤ r.1) || decide (r ∈ p2_ty)) = true
  rcases List.mem_append.mp h2 with h | h
  · rw [md_tk] at h
    rw [decide_eq_true h, Bool.or_true]
  · have h3 : decide (395 ≤ r.1) = true := List.all_eq_true.mp md_td r h
    rw [h3, Bool.true_or]
theorem md_t2 : p2_ty.all (fun r => decide (r ∈ p2_O.2.2.ty 227)) = true := List.all_eq_true.mpr fun r hr => decide_eq_true (List.mem_of_mem_take (show r ∈ (p2_O.2.2.ty 227).take 295 by rw [md_tk]; exact hr))
section MD
variable {n : Nat} {K : gm_K} {R : gm_R} {M : gm_M}
theorem md_mo (hF : gm_Fx p2_O n K R M) : (1 ≤ 226 ∧ 226 ≤ n) ∧ (K 226).1 = 11 + 4 := by
  obtain ⟨h1, h2, h3⟩ := hF.1 226 _ md_o.1.1
  exact ⟨⟨h1, h2⟩, by rw [h3]⟩
theorem md_kd {k len : Nat} (hF : gm_Fx p2_O n K R M) (h : p2_O.1 k = some (0, len)) : ((1 ≤ k ∧ k ≤ n) ∧ (K k).1 = 0) ∧ (K k).2 = len := by
  obtain ⟨h1, h2, h3⟩ := hF.1 k _ h
  exact ⟨⟨⟨h1, h2⟩, by rw [h3]⟩, by rw [h3]⟩
theorem md_rf {k : Nat} {j : Nat} (hF : gm_Fx p2_O n K R M) (h : p2_O.2.1 226 (j : Int) = some k) : R 226 (j : Int) = k := (hF.2.1 226 _ _ h).2
theorem md_ty (hF : gm_Fx p2_O n K R M) : ∀ r ∈ p2_ty, ∀ j, r.1 ≤ j → j ≤ r.2.1 → 0 ≤ j → j < 395 → (-2147483648 ≤ M 227 j ∧ M 227 j < 2147483648) ∧ r.2.2.1 ≤ M 227 j ∧ M 227 j ≤ r.2.2.2 := by
  intro r hr j h1 h2 _ _
  exact (hF.2.2.1 227 r (of_decide_eq_true (List.all_eq_true.mp md_t2 r hr))).2 j h1 h2
/-- what comes back from what is remembered keeps the types -/
theorem md_un {y : Int} (hF : gm_Fx p2_O n K R M) (hy : 0 ≤ y ∧ y < 12) : ∀ r ∈ p2_O.2.2.ty 227, ∀ j, r.1 ≤ j → j ≤ r.2.1 → 0 ≤ j → j < 0 + 395 → (-2147483648 ≤ M 230 (j - 0 + 395 * y) ∧ M 230 (j - 0 + 395 * y) < 2147483648) ∧ r.2.2.1 ≤ M 230 (j - 0 + 395 * y) ∧ M 230 (j - 0 + 395 * y) ≤ r.2.2.2 := by
  intro r hr j h1 h2 h3 h4
  have h5 := List.all_eq_true.mp md_t1 r hr
  rw [Bool.or_eq_true, decide_eq_true_eq, decide_eq_true_eq] at h5
  rcases h5 with h5 | h5
  · omega
  · rw [show j - 0 + 395 * y = 395 * y + j by omega]
    have hJ : j_J p2_ty K M := hF.2.2.2.2
    exact hJ.2.1 y hy.1 hy.2 r h5 j h1 h2 h3 (by omega)
end MD
end
/-! 44.hs -/
section
/-! LETTERS by hand: what is thrown in, what is opened. -/
section HS
variable {X : Int → Int} {LX d bc bs mi pc : Nat} {L : gm_L} {st : List gm_V} {n : Nat} {K : gm_K} {R : gm_R} {M : gm_M} {Q : gm_Q}
noncomputable def md_set (M : gm_M) (l k x : Int) : gm_M := gm_uM M 227 (119 + 7 * l + k) x
theorem md_set_ne {c : Nat} {j l k x : Int} (h : ¬ (c = 227 ∧ j = 119 + 7 * l + k)) : md_set M l k x c j = M c j := by
  unfold md_set gm_uM
  rw [if_neg h]
theorem md_set_lo {c : Nat} {j l k x : Int} (hl : 0 ≤ l ∧ 0 ≤ k) (h : j < 119) : md_set M l k x c j = M c j := md_set_ne (by omega)
theorem w2 {x : Int} (h : 0 ≤ x ∧ x < 3000) : gm_w x = x := gm_w_id (by omega) (by omega)
theorem uM_at {k : Nat} {j v : Int} : gm_uM M k j v k j = v := by
  unfold gm_uM
  rw [if_pos ⟨rfl, rfl⟩]
theorem uM_ne {k c : Nat} {j i v : Int} (h : ¬ (c = k ∧ i = j)) : gm_uM M k j v c i = M c i := by
  unfold gm_uM
  rw [if_neg h]
theorem uM_f {k c : Nat} {j v : Int} (h : ¬ c = k) : gm_uM M k j v c = M c := funext fun _ => uM_ne fun e => h e.1
theorem w272 {l k x : Int} (hmo : (1 ≤ 226 ∧ 226 ≤ n) ∧ (K 226).1 = 11 + 4) (h7 : ((1 ≤ 227 ∧ 227 ≤ n) ∧ (K 227).1 = 0) ∧ (K 227).2 = 2093) (r7 : R 226 ((1 : Nat) : Int) = 227) (hl : (0 ≤ l ∧ l < 24) ∧ 0 ≤ k ∧ k < 7) (hq : Q (.inl none) n K R (md_set M l k x)) : gm_Wp X LX d bc bs 272 0 (gm_ent 272 [gm_vr 226, gm_vi l, gm_vi k, gm_vi x]) [] n K R M Q := by
  have e1 : gm_w (119 + 7 * l + k) = 119 + 7 * l + k := w2 (by omega)
  refine gm_sz (gm_p_load (pc := 0) (i := .aload_n 0) (sr := 2) (j := 0) (by decide +kernel) rfl rfl rfl) ?_
  refine gm_sz (gm_p_get (pc := 1) (ix := 13) (ci := 11) (j := 1) (by decide +kernel) hmo.1 hmo.2 (by decide +kernel)) ?_
  rw [if_pos (show gm_isr 11 1 = true by decide +kernel), r7]
  refine gm_sz (gm_p_const (pc := 4) (i := .bipush 119) (v := gm_vi 119) (by decide +kernel) (by decide +kernel)) ?_
  refine gm_sz (gm_p_const (pc := 6) (i := .bipush 7) (v := gm_vi 7) (by decide +kernel) (by decide +kernel)) ?_
  refine gm_sz (gm_p_load (pc := 8) (i := .iload_n 1) (sr := 0) (j := 1) (by decide +kernel) rfl rfl rfl) ?_
  refine gm_sz (gm_p_bin (pc := 9) (i := .imul) (f := fun x y => x * y) (by decide +kernel) rfl) ?_
  refine gm_sz (gm_p_bin (pc := 10) (i := .iadd) (f := fun x y => x + y) (by decide +kernel) rfl) ?_
  refine gm_sz (gm_p_load (pc := 11) (i := .iload_n 2) (sr := 0) (j := 2) (by decide +kernel) rfl rfl rfl) ?_
  refine gm_sz (gm_p_bin (pc := 12) (i := .iadd) (f := fun x y => x + y) (by decide +kernel) rfl) ?_
  refine gm_sz (gm_p_load (pc := 13) (i := .iload_n 3) (sr := 0) (j := 3) (by decide +kernel) rfl rfl rfl) ?_
  refine gm_sz (gm_p_iast (pc := 14) (by decide +kernel) h7.1.1 h7.1.2 (by rw [e1, h7.2]; omega)) ?_
  rw [e1]
  exact gm_r_void (pc := 15) (by decide +kernel) (by decide +kernel) hq
theorem w254 (hmo : (1 ≤ 226 ∧ 226 ≤ n) ∧ (K 226).1 = 11 + 4) (h7 : ((1 ≤ 227 ∧ 227 ≤ n) ∧ (K 227).1 = 0) ∧ (K 227).2 = 2093) (r7 : R 226 ((1 : Nat) : Int) = 227) (hq : Q (.inl (some (gm_vi (M 227 4)))) n K R M) : gm_Wp X LX d bc bs 254 0 (gm_ent 254 [gm_vr 226]) [] n K R M Q := by
  have e1 : gm_w 4 = 4 := by decide
  refine gm_sz (gm_p_load (pc := 0) (i := .aload_n 0) (sr := 2) (j := 0) (by decide +kernel) rfl rfl rfl) ?_
  refine gm_sz (gm_p_get (pc := 1) (ix := 13) (ci := 11) (j := 1) (by decide +kernel) hmo.1 hmo.2 (by decide +kernel)) ?_
  rw [if_pos (show gm_isr 11 1 = true by decide +kernel), r7]
  refine gm_sz (gm_p_const (pc := 4) (i := .iconst 4) (v := gm_vi 4) (by decide +kernel) (by decide +kernel)) ?_
  refine gm_sz (gm_p_iald (pc := 5) (by decide +kernel) h7.1.1 h7.1.2 (by rw [e1, h7.2]; omega)) ?_
  rw [e1]
  exact gm_r_int (pc := 6) (by decide +kernel) (Or.inl (by decide +kernel)) hq
theorem w266 (hmo : (1 ≤ 226 ∧ 226 ≤ n) ∧ (K 226).1 = 11 + 4) (h7 : ((1 ≤ 227 ∧ 227 ≤ n) ∧ (K 227).1 = 0) ∧ (K 227).2 = 2093) (r7 : R 226 ((1 : Nat) : Int) = 227) (hq : Q (.inl (some (gm_vi (M 227 9)))) n K R M) : gm_Wp X LX d bc bs 266 0 (gm_ent 266 [gm_vr 226]) [] n K R M Q := by
  have e1 : gm_w 9 = 9 := by decide
  refine gm_sz (gm_p_load (pc := 0) (i := .aload_n 0) (sr := 2) (j := 0) (by decide +kernel) rfl rfl rfl) ?_
  refine gm_sz (gm_p_get (pc := 1) (ix := 13) (ci := 11) (j := 1) (by decide +kernel) hmo.1 hmo.2 (by decide +kernel)) ?_
  rw [if_pos (show gm_isr 11 1 = true by decide +kernel), r7]
  refine gm_sz (gm_p_const (pc := 4) (i := .bipush 9) (v := gm_vi 9) (by decide +kernel) (by decide +kernel)) ?_
  refine gm_sz (gm_p_iald (pc := 6) (by decide +kernel) h7.1.1 h7.1.2 (by rw [e1, h7.2]; omega)) ?_
  rw [e1]
  exact gm_r_int (pc := 7) (by decide +kernel) (Or.inl (by decide +kernel)) hq
theorem c272 {ix : Nat} {l k0 x : Int} (hmo : (1 ≤ 226 ∧ 226 ≤ n) ∧ (K 226).1 = 11 + 4) (h7 : ((1 ≤ 227 ∧ 227 ≤ n) ∧ (K 227).1 = 0) ∧ (K 227).2 = 2093) (r7 : R 226 ((1 : Nat) : Int) = 227) (hl : (0 ≤ l ∧ l < 24) ∧ 0 ≤ k0 ∧ k0 < 7) (h : gm_at mi pc = some (.invokevirtual ix)) (hc : gm_cal (gm_ow mi) ix = some (0, 272)) (hh : gm_hh mi = []) (hst : (st.map gm_cat).sum ≤ 8) (hd : 1 ≤ d) (k : gm_Wp X LX d bc bs mi (pc + 3) L (st) n K R (md_set M l k0 x) Q) : gm_Wp X LX d bc bs mi pc L (gm_vi x :: gm_vi k0 :: gm_vi l :: gm_vr 226 :: st) n K R M Q := gm_c_virt (k := 226) (ci := 11) (as := [gm_vi l, gm_vi k0, gm_vi x]) (st := st) (d' := 0) (bc' := 0) (bs' := 0) h hc (by decide +kernel) hh hmo.1 hmo.2 (by decide) (by decide +kernel) (show 3 = gm_na 272 by decide +kernel) (fun v hv => by
    rcases List.mem_cons.mp hv with rfl | hv
    · simp [gm_sort]
    rcases List.mem_cons.mp hv with rfl | hv
    · simp [gm_sort]
    rcases List.mem_cons.mp hv with rfl | hv
    · simp [gm_sort]
    cases hv) (show 3 + 1 ≤ gm_ml 272 by decide +kernel) hst hd (Nat.zero_le _) (Nat.zero_le _) (w272 hmo h7 r7 hl k)
theorem c254 {ix : Nat} (hmo : (1 ≤ 226 ∧ 226 ≤ n) ∧ (K 226).1 = 11 + 4) (h7 : ((1 ≤ 227 ∧ 227 ≤ n) ∧ (K 227).1 = 0) ∧ (K 227).2 = 2093) (r7 : R 226 ((1 : Nat) : Int) = 227) (h : gm_at mi pc = some (.invokevirtual ix)) (hc : gm_cal (gm_ow mi) ix = some (0, 254)) (hh : gm_hh mi = []) (hst : (st.map gm_cat).sum ≤ 8) (hd : 1 ≤ d) (k : gm_Wp X LX d bc bs mi (pc + 3) L (gm_vi (M 227 4) :: st) n K R M Q) : gm_Wp X LX d bc bs mi pc L (gm_vr 226 :: st) n K R M Q := gm_c_virt (k := 226) (ci := 11) (as := []) (st := st) (d' := 0) (bc' := 0) (bs' := 0) h hc (by decide +kernel) hh hmo.1 hmo.2 (by decide) (by decide +kernel) (show 0 = gm_na 254 by decide +kernel) (fun v hv => by
    cases hv) (show 0 + 1 ≤ gm_ml 254 by decide +kernel) hst hd (Nat.zero_le _) (Nat.zero_le _) (w254 hmo h7 r7 k)
theorem c266 {ix : Nat} (hmo : (1 ≤ 226 ∧ 226 ≤ n) ∧ (K 226).1 = 11 + 4) (h7 : ((1 ≤ 227 ∧ 227 ≤ n) ∧ (K 227).1 = 0) ∧ (K 227).2 = 2093) (r7 : R 226 ((1 : Nat) : Int) = 227) (h : gm_at mi pc = some (.invokevirtual ix)) (hc : gm_cal (gm_ow mi) ix = some (0, 266)) (hh : gm_hh mi = []) (hst : (st.map gm_cat).sum ≤ 8) (hd : 1 ≤ d) (k : gm_Wp X LX d bc bs mi (pc + 3) L (gm_vi (M 227 9) :: st) n K R M Q) : gm_Wp X LX d bc bs mi pc L (gm_vr 226 :: st) n K R M Q := gm_c_virt (k := 226) (ci := 11) (as := []) (st := st) (d' := 0) (bc' := 0) (bs' := 0) h hc (by decide +kernel) hh hmo.1 hmo.2 (by decide) (by decide +kernel) (show 0 = gm_na 266 by decide +kernel) (fun v hv => by
    cases hv) (show 0 + 1 ≤ gm_ml 266 by decide +kernel) hst hd (Nat.zero_le _) (Nat.zero_le _) (w266 hmo h7 r7 k)
/-- what is thrown in as number l0 -/
noncomputable def md_thr (M : gm_M) (l0 f t la ro : Int) : gm_M := gm_uM (md_set (md_set (md_set (md_set (md_set (md_set (md_set M l0 0 f) l0 1 t) l0 2 la) l0 3 (M 227 9)) l0 4 ro) l0 5 (-1)) l0 6 (-1)) 227 4 (l0 + 1)
theorem w271 {f t la ro : Int} (hmo : (1 ≤ 226 ∧ 226 ≤ n) ∧ (K 226).1 = 11 + 4) (h7 : ((1 ≤ 227 ∧ 227 ≤ n) ∧ (K 227).1 = 0) ∧ (K 227).2 = 2093) (r7 : R 226 ((1 : Nat) : Int) = 227) (hd : 1 ≤ d) (hlc : 0 ≤ M 227 4 ∧ M 227 4 < 24) (hq : Q (.inl none) n K R (md_thr M (M 227 4) f t la ro)) : gm_Wp X LX d bc bs 271 0 (gm_ent 271 [gm_vr 226, gm_vi f, gm_vi t, gm_vi la, gm_vi ro]) [] n K R M Q := by
  refine gm_sz (gm_p_load (pc := 0) (i := .aload_n 0) (sr := 2) (j := 0) (by decide +kernel) rfl rfl rfl) ?_
  refine c254 (pc := 1) (ix := 100) hmo h7 r7 (by decide +kernel) (by decide +kernel) (by decide +kernel) (Nat.le_of_ble_eq_true rfl) hd ?_
  refine gm_sz (gm_p_stor (pc := 4) (i := .istore 5) (sr := 0) (j := 5) (by decide +kernel) rfl (show 5 + 0 < 6 by decide) rfl) ?_
  change gm_Wp X LX d bc bs 271 6 [some (gm_vr 226), some (gm_vi f), some (gm_vi t), some (gm_vi la), some (gm_vi ro), some (gm_vi (M 227 4))] [] n K R M Q
  generalize hl0 : M 227 4 = l0 at *
  refine gm_sz (gm_p_load (pc := 6) (i := .aload_n 0) (sr := 2) (j := 0) (by decide +kernel) rfl rfl rfl) ?_
  refine gm_sz (gm_p_load (pc := 7) (i := .iload 5) (sr := 0) (j := 5) (by decide +kernel) rfl rfl rfl) ?_
  refine gm_sz (gm_p_const (pc := 9) (i := .iconst 0) (v := gm_vi 0) (by decide +kernel) (by decide +kernel)) ?_
  refine gm_sz (gm_p_load (pc := 10) (i := .iload_n 1) (sr := 0) (j := 1) (by decide +kernel) rfl rfl rfl) ?_
  refine c272 (pc := 11) (ix := 173) hmo h7 r7 (by omega) (by decide +kernel) (by decide +kernel) (by decide +kernel) (Nat.le_of_ble_eq_true rfl) hd ?_
  refine gm_sz (gm_p_load (pc := 14) (i := .aload_n 0) (sr := 2) (j := 0) (by decide +kernel) rfl rfl rfl) ?_
  refine gm_sz (gm_p_load (pc := 15) (i := .iload 5) (sr := 0) (j := 5) (by decide +kernel) rfl rfl rfl) ?_
  refine gm_sz (gm_p_const (pc := 17) (i := .iconst 1) (v := gm_vi 1) (by decide +kernel) (by decide +kernel)) ?_
  refine gm_sz (gm_p_load (pc := 18) (i := .iload_n 2) (sr := 0) (j := 2) (by decide +kernel) rfl rfl rfl) ?_
  refine c272 (pc := 19) (ix := 173) hmo h7 r7 (by omega) (by decide +kernel) (by decide +kernel) (by decide +kernel) (Nat.le_of_ble_eq_true rfl) hd ?_
  refine gm_sz (gm_p_load (pc := 22) (i := .aload_n 0) (sr := 2) (j := 0) (by decide +kernel) rfl rfl rfl) ?_
  refine gm_sz (gm_p_load (pc := 23) (i := .iload 5) (sr := 0) (j := 5) (by decide +kernel) rfl rfl rfl) ?_
  refine gm_sz (gm_p_const (pc := 25) (i := .iconst 2) (v := gm_vi 2) (by decide +kernel) (by decide +kernel)) ?_
  refine gm_sz (gm_p_load (pc := 26) (i := .iload_n 3) (sr := 0) (j := 3) (by decide +kernel) rfl rfl rfl) ?_
  refine c272 (pc := 27) (ix := 173) hmo h7 r7 (by omega) (by decide +kernel) (by decide +kernel) (by decide +kernel) (Nat.le_of_ble_eq_true rfl) hd ?_
  refine gm_sz (gm_p_load (pc := 30) (i := .aload_n 0) (sr := 2) (j := 0) (by decide +kernel) rfl rfl rfl) ?_
  refine gm_sz (gm_p_load (pc := 31) (i := .iload 5) (sr := 0) (j := 5) (by decide +kernel) rfl rfl rfl) ?_
  refine gm_sz (gm_p_const (pc := 33) (i := .iconst 3) (v := gm_vi 3) (by decide +kernel) (by decide +kernel)) ?_
  refine gm_sz (gm_p_load (pc := 34) (i := .aload_n 0) (sr := 2) (j := 0) (by decide +kernel) rfl rfl rfl) ?_
  refine c266 (pc := 35) (ix := 162) hmo h7 r7 (by decide +kernel) (by decide +kernel) (by decide +kernel) (Nat.le_of_ble_eq_true rfl) hd ?_
  rw [show md_set (md_set (md_set M l0 0 f) l0 1 t) l0 2 la 227 9 = M 227 9 by rw [md_set_lo (by omega) (by decide), md_set_lo (by omega) (by decide), md_set_lo (by omega) (by decide)]]
  refine c272 (pc := 38) (ix := 173) hmo h7 r7 (by omega) (by decide +kernel) (by decide +kernel) (by decide +kernel) (Nat.le_of_ble_eq_true rfl) hd ?_
  refine gm_sz (gm_p_load (pc := 41) (i := .aload_n 0) (sr := 2) (j := 0) (by decide +kernel) rfl rfl rfl) ?_
  refine gm_sz (gm_p_load (pc := 42) (i := .iload 5) (sr := 0) (j := 5) (by decide +kernel) rfl rfl rfl) ?_
  refine gm_sz (gm_p_const (pc := 44) (i := .iconst 4) (v := gm_vi 4) (by decide +kernel) (by decide +kernel)) ?_
  refine gm_sz (gm_p_load (pc := 45) (i := .iload 4) (sr := 0) (j := 4) (by decide +kernel) rfl rfl rfl) ?_
  refine c272 (pc := 47) (ix := 173) hmo h7 r7 (by omega) (by decide +kernel) (by decide +kernel) (by decide +kernel) (Nat.le_of_ble_eq_true rfl) hd ?_
  refine gm_sz (gm_p_load (pc := 50) (i := .aload_n 0) (sr := 2) (j := 0) (by decide +kernel) rfl rfl rfl) ?_
  refine gm_sz (gm_p_load (pc := 51) (i := .iload 5) (sr := 0) (j := 5) (by decide +kernel) rfl rfl rfl) ?_
  refine gm_sz (gm_p_const (pc := 53) (i := .iconst 5) (v := gm_vi 5) (by decide +kernel) (by decide +kernel)) ?_
  refine gm_sz (gm_p_const (pc := 54) (i := .iconst (-1)) (v := gm_vi (-1)) (by decide +kernel) (by decide +kernel)) ?_
  refine c272 (pc := 55) (ix := 173) hmo h7 r7 (by omega) (by decide +kernel) (by decide +kernel) (by decide +kernel) (Nat.le_of_ble_eq_true rfl) hd ?_
  refine gm_sz (gm_p_load (pc := 58) (i := .aload_n 0) (sr := 2) (j := 0) (by decide +kernel) rfl rfl rfl) ?_
  refine gm_sz (gm_p_load (pc := 59) (i := .iload 5) (sr := 0) (j := 5) (by decide +kernel) rfl rfl rfl) ?_
  refine gm_sz (gm_p_const (pc := 61) (i := .bipush 6) (v := gm_vi 6) (by decide +kernel) (by decide +kernel)) ?_
  refine gm_sz (gm_p_const (pc := 63) (i := .iconst (-1)) (v := gm_vi (-1)) (by decide +kernel) (by decide +kernel)) ?_
  refine c272 (pc := 64) (ix := 173) hmo h7 r7 (by omega) (by decide +kernel) (by decide +kernel) (by decide +kernel) (Nat.le_of_ble_eq_true rfl) hd ?_
  refine gm_sz (gm_p_load (pc := 67) (i := .aload_n 0) (sr := 2) (j := 0) (by decide +kernel) rfl rfl rfl) ?_
  refine gm_sz (gm_p_get (pc := 68) (ix := 13) (ci := 11) (j := 1) (by decide +kernel) hmo.1 hmo.2 (by decide +kernel)) ?_
  rw [if_pos (show gm_isr 11 1 = true by decide +kernel), r7]
  refine gm_sz (gm_p_const (pc := 71) (i := .iconst 4) (v := gm_vi 4) (by decide +kernel) (by decide +kernel)) ?_
  refine gm_sz (gm_p_dup2 (pc := 72) (by decide +kernel) (by simp [gm_sort]) (by simp [gm_sort])) ?_
  have e4 : gm_w 4 = 4 := by decide
  refine gm_sz (gm_p_iald (pc := 73) (by decide +kernel) h7.1.1 h7.1.2 (by rw [e4, h7.2]; omega)) ?_
  rw [e4]
  rw [show md_set (md_set (md_set (md_set (md_set (md_set (md_set M l0 0 f) l0 1 t) l0 2 la) l0 3 (M 227 9)) l0 4 ro) l0 5 (-1)) l0 6 (-1) 227 4 = l0 by rw [md_set_lo (by omega) (by decide), md_set_lo (by omega) (by decide), md_set_lo (by omega) (by decide), md_set_lo (by omega) (by decide), md_set_lo (by omega) (by decide), md_set_lo (by omega) (by decide), md_set_lo (by omega) (by decide), hl0]]
  refine gm_sz (gm_p_const (pc := 74) (i := .iconst 1) (v := gm_vi 1) (by decide +kernel) (by decide +kernel)) ?_
  refine gm_sz (gm_p_bin (pc := 75) (i := .iadd) (f := fun x y => x + y) (by decide +kernel) rfl) ?_
  refine gm_sz (gm_p_iast (pc := 76) (by decide +kernel) h7.1.1 h7.1.2 (by rw [e4, h7.2]; omega)) ?_
  rw [e4]
  exact gm_r_void (pc := 77) (by decide +kernel) (by decide +kernel) hq
/-- letter l is opened by p as the o-th -/
noncomputable def md_opn (M : gm_M) (o l p : Int) : gm_M := gm_uM (gm_uM (gm_uM (gm_uM (md_set (md_set M l 5 p) l 6 (M 227 9)) 227 (323 + 3 * o) (M 227 9)) 227 (323 + 3 * o + 1) l) 227 (323 + 3 * o + 2) p) 227 14 (o + 1)
theorem w319 {l p : Int} (hmo : (1 ≤ 226 ∧ 226 ≤ n) ∧ (K 226).1 = 11 + 4) (h7 : ((1 ≤ 227 ∧ 227 ≤ n) ∧ (K 227).1 = 0) ∧ (K 227).2 = 2093) (r7 : R 226 ((1 : Nat) : Int) = 227) (hd : 1 ≤ d) (hl : 0 ≤ l ∧ l < 24) (hlo : 0 ≤ M 227 14 ∧ M 227 14 < 24) (hq : Q (.inl none) n K R (md_opn M (M 227 14) l p)) : gm_Wp X LX d bc bs 319 0 (gm_ent 319 [gm_vr 226, gm_vi l, gm_vi p]) [] n K R M Q := by
  have e14 : gm_w 14 = 14 := by decide
  refine gm_sz (gm_p_load (pc := 0) (i := .aload_n 0) (sr := 2) (j := 0) (by decide +kernel) rfl rfl rfl) ?_
  refine gm_sz (gm_p_load (pc := 1) (i := .iload_n 1) (sr := 0) (j := 1) (by decide +kernel) rfl rfl rfl) ?_
  refine gm_sz (gm_p_const (pc := 2) (i := .iconst 5) (v := gm_vi 5) (by decide +kernel) (by decide +kernel)) ?_
  refine gm_sz (gm_p_load (pc := 3) (i := .iload_n 2) (sr := 0) (j := 2) (by decide +kernel) rfl rfl rfl) ?_
  refine c272 (pc := 4) (ix := 173) hmo h7 r7 (by omega) (by decide +kernel) (by decide +kernel) (by decide +kernel) (Nat.le_of_ble_eq_true rfl) hd ?_
  refine gm_sz (gm_p_load (pc := 7) (i := .aload_n 0) (sr := 2) (j := 0) (by decide +kernel) rfl rfl rfl) ?_
  refine gm_sz (gm_p_load (pc := 8) (i := .iload_n 1) (sr := 0) (j := 1) (by decide +kernel) rfl rfl rfl) ?_
  refine gm_sz (gm_p_const (pc := 9) (i := .bipush 6) (v := gm_vi 6) (by decide +kernel) (by decide +kernel)) ?_
  refine gm_sz (gm_p_load (pc := 11) (i := .aload_n 0) (sr := 2) (j := 0) (by decide +kernel) rfl rfl rfl) ?_
  refine c266 (pc := 12) (ix := 162) hmo h7 r7 (by decide +kernel) (by decide +kernel) (by decide +kernel) (Nat.le_of_ble_eq_true rfl) hd ?_
  rw [show md_set M l 5 p 227 9 = M 227 9 from md_set_lo (by omega) (by decide)]
  refine c272 (pc := 15) (ix := 173) hmo h7 r7 (by omega) (by decide +kernel) (by decide +kernel) (by decide +kernel) (Nat.le_of_ble_eq_true rfl) hd ?_
  generalize hM2 : md_set (md_set M l 5 p) l 6 (M 227 9) = M2
  have h9 : M2 227 9 = M 227 9 := by rw [← hM2, md_set_lo (by omega) (by decide), md_set_lo (by omega) (by decide)]
  have h14 : M2 227 14 = M 227 14 := by rw [← hM2, md_set_lo (by omega) (by decide), md_set_lo (by omega) (by decide)]
  refine gm_sz (gm_p_const (pc := 18) (i := .sipush 323) (v := gm_vi 323) (by decide +kernel) (by decide +kernel)) ?_
  refine gm_sz (gm_p_const (pc := 21) (i := .iconst 3) (v := gm_vi 3) (by decide +kernel) (by decide +kernel)) ?_
  refine gm_sz (gm_p_load (pc := 22) (i := .aload_n 0) (sr := 2) (j := 0) (by decide +kernel) rfl rfl rfl) ?_
  refine gm_sz (gm_p_get (pc := 23) (ix := 13) (ci := 11) (j := 1) (by decide +kernel) hmo.1 hmo.2 (by decide +kernel)) ?_
  rw [if_pos (show gm_isr 11 1 = true by decide +kernel), r7]
  refine gm_sz (gm_p_const (pc := 26) (i := .bipush 14) (v := gm_vi 14) (by decide +kernel) (by decide +kernel)) ?_
  refine gm_sz (gm_p_iald (pc := 28) (by decide +kernel) h7.1.1 h7.1.2 (by rw [e14, h7.2]; omega)) ?_
  rw [e14]
  rw [h14]
  refine gm_sz (gm_p_bin (pc := 29) (i := .imul) (f := fun x y => x * y) (by decide +kernel) rfl) ?_
  refine gm_sz (gm_p_bin (pc := 30) (i := .iadd) (f := fun x y => x + y) (by decide +kernel) rfl) ?_
  refine gm_sz (gm_p_stor (pc := 31) (i := .istore_n 3) (sr := 0) (j := 3) (by decide +kernel) rfl (show 3 + 0 < 4 by decide) rfl) ?_
  change gm_Wp X LX d bc bs 319 32 [some (gm_vr 226), some (gm_vi l), some (gm_vi p), some (gm_vi (323 + 3 * M 227 14))] [] n K R M2 Q
  generalize ho : M 227 14 = o at *
  have w0 : gm_w (323 + 3 * o) = 323 + 3 * o := w2 (by omega)
  have w1 : gm_w (323 + 3 * o + 1) = 323 + 3 * o + 1 := w2 (by omega)
  have w3 : gm_w (323 + 3 * o + 2) = 323 + 3 * o + 2 := w2 (by omega)
  refine gm_sz (gm_p_load (pc := 32) (i := .aload_n 0) (sr := 2) (j := 0) (by decide +kernel) rfl rfl rfl) ?_
  refine gm_sz (gm_p_get (pc := 33) (ix := 13) (ci := 11) (j := 1) (by decide +kernel) hmo.1 hmo.2 (by decide +kernel)) ?_
  rw [if_pos (show gm_isr 11 1 = true by decide +kernel), r7]
  refine gm_sz (gm_p_load (pc := 36) (i := .iload_n 3) (sr := 0) (j := 3) (by decide +kernel) rfl rfl rfl) ?_
  refine gm_sz (gm_p_load (pc := 37) (i := .aload_n 0) (sr := 2) (j := 0) (by decide +kernel) rfl rfl rfl) ?_
  refine c266 (pc := 38) (ix := 162) hmo h7 r7 (by decide +kernel) (by decide +kernel) (by decide +kernel) (Nat.le_of_ble_eq_true rfl) hd ?_
  rw [h9]
  refine gm_sz (gm_p_iast (pc := 41) (by decide +kernel) h7.1.1 h7.1.2 (by rw [w0, h7.2]; omega)) ?_
  rw [w0]
  refine gm_sz (gm_p_load (pc := 42) (i := .aload_n 0) (sr := 2) (j := 0) (by decide +kernel) rfl rfl rfl) ?_
  refine gm_sz (gm_p_get (pc := 43) (ix := 13) (ci := 11) (j := 1) (by decide +kernel) hmo.1 hmo.2 (by decide +kernel)) ?_
  rw [if_pos (show gm_isr 11 1 = true by decide +kernel), r7]
  refine gm_sz (gm_p_load (pc := 46) (i := .iload_n 3) (sr := 0) (j := 3) (by decide +kernel) rfl rfl rfl) ?_
  refine gm_sz (gm_p_const (pc := 47) (i := .iconst 1) (v := gm_vi 1) (by decide +kernel) (by decide +kernel)) ?_
  refine gm_sz (gm_p_bin (pc := 48) (i := .iadd) (f := fun x y => x + y) (by decide +kernel) rfl) ?_
  refine gm_sz (gm_p_load (pc := 49) (i := .iload_n 1) (sr := 0) (j := 1) (by decide +kernel) rfl rfl rfl) ?_
  refine gm_sz (gm_p_iast (pc := 50) (by decide +kernel) h7.1.1 h7.1.2 (by rw [w1, h7.2]; omega)) ?_
  rw [w1]
  refine gm_sz (gm_p_load (pc := 51) (i := .aload_n 0) (sr := 2) (j := 0) (by decide +kernel) rfl rfl rfl) ?_
  refine gm_sz (gm_p_get (pc := 52) (ix := 13) (ci := 11) (j := 1) (by decide +kernel) hmo.1 hmo.2 (by decide +kernel)) ?_
  rw [if_pos (show gm_isr 11 1 = true by decide +kernel), r7]
  refine gm_sz (gm_p_load (pc := 55) (i := .iload_n 3) (sr := 0) (j := 3) (by decide +kernel) rfl rfl rfl) ?_
  refine gm_sz (gm_p_const (pc := 56) (i := .iconst 2) (v := gm_vi 2) (by decide +kernel) (by decide +kernel)) ?_
  refine gm_sz (gm_p_bin (pc := 57) (i := .iadd) (f := fun x y => x + y) (by decide +kernel) rfl) ?_
  refine gm_sz (gm_p_load (pc := 58) (i := .iload_n 2) (sr := 0) (j := 2) (by decide +kernel) rfl rfl rfl) ?_
  refine gm_sz (gm_p_iast (pc := 59) (by decide +kernel) h7.1.1 h7.1.2 (by rw [w3, h7.2]; omega)) ?_
  rw [w3]
  refine gm_sz (gm_p_load (pc := 60) (i := .aload_n 0) (sr := 2) (j := 0) (by decide +kernel) rfl rfl rfl) ?_
  refine gm_sz (gm_p_get (pc := 61) (ix := 13) (ci := 11) (j := 1) (by decide +kernel) hmo.1 hmo.2 (by decide +kernel)) ?_
  rw [if_pos (show gm_isr 11 1 = true by decide +kernel), r7]
  refine gm_sz (gm_p_const (pc := 64) (i := .bipush 14) (v := gm_vi 14) (by decide +kernel) (by decide +kernel)) ?_
  refine gm_sz (gm_p_dup2 (pc := 66) (by decide +kernel) (by simp [gm_sort]) (by simp [gm_sort])) ?_
  refine gm_sz (gm_p_iald (pc := 67) (by decide +kernel) h7.1.1 h7.1.2 (by rw [e14, h7.2]; omega)) ?_
  rw [e14]
  rw [show gm_uM (gm_uM (gm_uM M2 227 (323 + 3 * o) (M 227 9)) 227 (323 + 3 * o + 1) l) 227 (323 + 3 * o + 2) p 227 14 = o by rw [uM_ne (by omega), uM_ne (by omega), uM_ne (by omega), h14]]
  refine gm_sz (gm_p_const (pc := 68) (i := .iconst 1) (v := gm_vi 1) (by decide +kernel) (by decide +kernel)) ?_
  refine gm_sz (gm_p_bin (pc := 69) (i := .iadd) (f := fun x y => x + y) (by decide +kernel) rfl) ?_
  refine gm_sz (gm_p_iast (pc := 70) (by decide +kernel) h7.1.1 h7.1.2 (by rw [e14, h7.2]; omega)) ?_
  rw [e14]
  subst hM2
  exact gm_r_void (pc := 71) (by decide +kernel) (by decide +kernel) hq
end HS
end
/-! 46.op -/
section
/-! WHAT IS THROWN IN, WHAT IS OPENED: what is said of these two. -/
noncomputable def gm_Ft (O : gm_Or) (n : Nat) (M : gm_M) : Prop := ∀ k r, r ∈ O.2.2.ty k → k ≤ n ∧ ∀ j, r.1 ≤ j → j ≤ r.2.1 → (-2147483648 ≤ M k j ∧ M k j < 2147483648) ∧ r.2.2.1 ≤ M k j ∧ M k j ≤ r.2.2.2
theorem gm_Ft_M {O : gm_Or} {n : Nat} {M : gm_M} {k : Nat} {j v a b : Int} (hF : gm_Ft O n M) (h : gm_tyv O k j j a b = true) (h3 : a ≤ v) (h4 : v ≤ b) : gm_Ft O n (gm_uM M k j v) := by
  intro c r hr
  obtain ⟨g1, g2⟩ := hF c r hr
  refine ⟨g1, fun i h5 h6 => ?_⟩
  unfold gm_uM
  split
  · rename_i e
    obtain ⟨rfl, rfl⟩ := e
    have h7 := List.all_eq_true.mp (gm_tyv_def.symm.trans h) r hr
    simp only [Bool.or_eq_true, Bool.and_eq_true, decide_eq_true_eq] at h7
    rcases h7 with h7 | h7 | ⟨h7, h8, h9, h10⟩
    · omega
    · omega
    · exact ⟨⟨by omega, by omega⟩, by omega, by omega⟩
  · exact g2 i h5 h6
section OP
variable {X : Int → Int} {LX : Nat} {n : Nat} {K : gm_K} {R : gm_R} {M : gm_M}
theorem op_t4 : gm_tyr p2_O 227 4 4 = some (0, 24) := by decide +kernel
theorem op_t9 : gm_tyr p2_O 227 9 9 = some (0, 299) := by decide +kernel
theorem op_t14 : gm_tyr p2_O 227 14 14 = some (0, 24) := by decide +kernel
theorem md_thr_f {l f t la ro : Int} {c : Nat} (h : ¬ c = 227) : md_thr M l f t la ro c = M c := by
  unfold md_thr md_set
  rw [uM_f h, uM_f h, uM_f h, uM_f h, uM_f h, uM_f h, uM_f h, uM_f h]
theorem md_thr_ne {l f t la ro j : Int} (h4 : ¬ j = 4) (h : ¬ (119 + 7 * l ≤ j ∧ j ≤ 125 + 7 * l)) : md_thr M l f t la ro 227 j = M 227 j := by
  unfold md_thr md_set
  rw [uM_ne (by omega), uM_ne (by omega), uM_ne (by omega), uM_ne (by omega), uM_ne (by omega), uM_ne (by omega), uM_ne (by omega), uM_ne (by omega)]
theorem md_thr_4 {l f t la ro : Int} : md_thr M l f t la ro 227 4 = l + 1 := by
  unfold md_thr
  rw [uM_at]
theorem md_thr_0 {l f t la ro : Int} (hl : 0 ≤ l) : md_thr M l f t la ro 227 (119 + 7 * l) = f := by
  unfold md_thr md_set
  rw [uM_ne (by omega), uM_ne (by omega), uM_ne (by omega), uM_ne (by omega), uM_ne (by omega), uM_ne (by omega), uM_ne (by omega)]
  unfold gm_uM
  rw [if_pos ⟨rfl, by omega⟩]
theorem md_thr_1 {l f t la ro : Int} (hl : 0 ≤ l) : md_thr M l f t la ro 227 (120 + 7 * l) = t := by
  unfold md_thr md_set
  rw [uM_ne (by omega), uM_ne (by omega), uM_ne (by omega), uM_ne (by omega), uM_ne (by omega), uM_ne (by omega)]
  unfold gm_uM
  rw [if_pos ⟨rfl, by omega⟩]
noncomputable def op_ck (f0 f1 t0 t1 a0 a1 r0 r1 : Int) : Bool := ((List.range 24).all fun (l : Nat) => gm_tyv p2_O 227 (119 + 7 * (l : Int) + 0) (119 + 7 * (l : Int) + 0) f0 f1 && (gm_tyv p2_O 227 (119 + 7 * (l : Int) + 1) (119 + 7 * (l : Int) + 1) t0 t1 && (gm_tyv p2_O 227 (119 + 7 * (l : Int) + 2) (119 + 7 * (l : Int) + 2) a0 a1 && (gm_tyv p2_O 227 (119 + 7 * (l : Int) + 3) (119 + 7 * (l : Int) + 3) 0 299 && (gm_tyv p2_O 227 (119 + 7 * (l : Int) + 4) (119 + 7 * (l : Int) + 4) r0 r1 && (gm_tyv p2_O 227 (119 + 7 * (l : Int) + 5) (119 + 7 * (l : Int) + 5) (-1) (-1) && gm_tyv p2_O 227 (119 + 7 * (l : Int) + 6) (119 + 7 * (l : Int) + 6) (-1) (-1))))))) && gm_tyv p2_O 227 4 4 1 24
noncomputable def op_ts (f0 f1 t0 t1 a0 a1 r0 r1 : Int) : ck_Sum := ((1, 0, 0), 245, [.inr (.inr (.inl 226)), .inl (f0, f1, []), .inl (t0, t1, []), .inl (a0, a1, []), .inl (r0, r1, [])], ([], [], [(227, 4, 4, (0, 23, [(22, 0)])), (227, 9, 9, (0, 299, [(11, 0)]))]), ([(227, 4, 4), (227, 119, 286)], []), [(.inr none, 245, ([], [], [(227, 4, 4, (1, 24, [(22, 1)]))]))])
theorem op_throw {f0 f1 t0 t1 a0 a1 r0 r1 : Int} (hc : op_ck f0 f1 t0 t1 a0 a1 r0 r1 = true) (hb : 0 ≤ t0 ∨ f1 < 0) : ck_Ok p2_O X LX 271 (op_ts f0 f1 t0 t1 a0 a1 r0 r1) := by
  intro d σ vs n K R M hd hn hvs hnm hF hf
  obtain ⟨_, _, rfl, rfl, _, _, rfl, ⟨f, rfl, -, u1, u2, -⟩, _, _, rfl, ⟨t, rfl, -, u3, u4, -⟩, _, _, rfl, ⟨la, rfl, -, u5, u6, -⟩, _, _, rfl, ⟨ro, rfl, -, u7, u8, -⟩, rfl⟩ := hvs
  have u1 : f0 ≤ f := u1
  have u2 : f ≤ f1 := u2
  have u3 : t0 ≤ t := u3
  have u4 : t ≤ t1 := u4
  have u5 : a0 ≤ la := u5
  have u6 : la ≤ a1 := u6
  have u7 : r0 ≤ ro := u7
  have u8 : ro ≤ r1 := u8
  have hn : n = 245 := hn
  subst hn
  have h4 := (hf.2.2 (227, 4, 4, (0, 23, [(22, 0)])) List.mem_cons_self).2 4 (Int.le_refl _) (Int.le_refl _)
  have h41 : (0 : Int) ≤ M 227 4 := h4.2.1
  have h42 : M 227 4 ≤ (23 : Int) := h4.2.2.1
  have h9 := ((gm_tyr_s hF op_t9).2 9 (Int.le_refl _) (Int.le_refl _)).2
  have h91 : (0 : Int) ≤ M 227 9 := h9.1
  have h92 : M 227 9 ≤ (299 : Int) := h9.2
  have h22 : σ 22 = M 227 4 := hnm (22, 227, 4) (by decide +kernel)
  refine w271 (md_mo hF) (md_kd hF md_o.1.2) (md_rf hF md_r.1.1) hd ⟨h41, by omega⟩ ?_
  obtain ⟨l0, hl0⟩ : ∃ l0 : Nat, M 227 4 = (l0 : Int) := ⟨(M 227 4).toNat, by omega⟩
  rw [hl0]
  rw [hl0] at h41 h42 h22
  unfold op_ck at hc
  rw [Bool.and_eq_true] at hc
  have hl := List.all_eq_true.mp hc.1 l0 (List.mem_range.mpr (by omega))
  simp only [Bool.and_eq_true] at hl
  obtain ⟨c0, c1, c2, c3, c4, c5, c6⟩ := hl
  have w0 : ck_okW ([(227, 4, 4), (227, 119, 286)] : List (Nat × Int × Int)) 245 227 119 286 = true := by decide
  have w4 : ck_okW ([(227, 4, 4), (227, 119, 286)] : List (Nat × Int × Int)) 245 227 4 4 = true := by decide
  refine ⟨⟨hF.1, hF.2.1, ?_, hF.2.2.2.1, ?_⟩, ?_, _, List.mem_cons_self, trivial, rfl, ⟨(fun _ h => nomatch h), (fun _ h => nomatch h), fun q hq => ?_⟩⟩
  · exact gm_Ft_M (gm_Ft_M (gm_Ft_M (gm_Ft_M (gm_Ft_M (gm_Ft_M (gm_Ft_M (gm_Ft_M hF.2.2.1 c0 u1 u2) c1 u3 u4) c2 u5 u6) c3 h91 h92) c4 u7 u8) c5 (Int.le_refl _) (Int.le_refl _)) c6 (Int.le_refl _) (Int.le_refl _)) hc.2 (by omega) (by omega)
  · have hJ : j_J p2_ty K M := hF.2.2.2.2
    obtain ⟨⟨o7, o8, o9, oA⟩, tA, t7, t8, t9⟩ := hJ
    show j_J p2_ty K _
    unfold j_J
    rw [md_thr_f (by decide : ¬ 228 = 227), md_thr_f (by decide : ¬ 229 = 227), md_thr_f (by decide : ¬ 230 = 227)]
    refine ⟨⟨jO_throw (l0 := l0) o7 (by rw [md_thr_4, hl0]) (md_thr_ne (by omega) (by omega)) (fun l hl hne => ⟨md_thr_ne (by omega) (by omega), md_thr_ne (by omega) (by omega), md_thr_ne (by omega) (by omega)⟩) (fun h => ?_), o8, o9, oA⟩, tA, jT_cg (fun j j1 j2 => md_thr_ne (by omega) (by omega)) t7, t8, t9⟩
    rw [md_thr_0 (by omega)] at h
    rw [md_thr_1 (by omega)]
    omega
  · exact ck_fr_M (ck_fr_M (ck_fr_M (ck_fr_M (ck_fr_M (ck_fr_M (ck_fr_M (ck_fr_M ck_fr_0 w0 (by omega) (by omega)) w0 (by omega) (by omega)) w0 (by omega) (by omega)) w0 (by omega) (by omega)) w0 (by omega) (by omega)) w0 (by omega) (by omega)) w0 (by omega) (by omega)) w4 (by omega) (by omega)
  · rw [List.mem_singleton.mp hq]
    refine ⟨by decide, fun j j1 j2 => ?_⟩
    have j1 : (4 : Int) ≤ j := j1
    have j2 : j ≤ (4 : Int) := j2
    have j3 : j = 4 := by omega
    subst j3
    show gm_ir (md_thr M l0 f t la ro 227 4) ∧ ck_gi σ (1, 24, [(22, 1)]) (md_thr M l0 f t la ro 227 4)
    rw [md_thr_4]
    refine ⟨⟨by omega, by omega⟩, by show (1 : Int) ≤ _; omega, by show _ ≤ (24 : Int); omega, fun q hq => ?_⟩
    rw [List.mem_singleton.mp hq]
    exact ⟨fun _ => by rw [h22], fun h => absurd h (by decide)⟩
theorem md_opn_f {o l p : Int} {c : Nat} (h : ¬ c = 227) : md_opn M o l p c = M c := by
  unfold md_opn md_set
  rw [uM_f h, uM_f h, uM_f h, uM_f h, uM_f h, uM_f h]
theorem md_opn_ne {o l p j : Int} (h4 : ¬ j = 14) (h : ¬ (124 + 7 * l ≤ j ∧ j ≤ 125 + 7 * l)) (h5 : ¬ (323 + 3 * o ≤ j ∧ j ≤ 325 + 3 * o)) : md_opn M o l p 227 j = M 227 j := by
  unfold md_opn md_set
  rw [uM_ne (by omega), uM_ne (by omega), uM_ne (by omega), uM_ne (by omega), uM_ne (by omega), uM_ne (by omega)]
theorem md_opn_14 {o l p : Int} : md_opn M o l p 227 14 = o + 1 := by
  unfold md_opn
  rw [uM_at]
theorem md_opn_5 {o l p : Int} (hl : 0 ≤ l ∧ l < 24) (ho : 0 ≤ o) : md_opn M o l p 227 (124 + 7 * l) = p := by
  unfold md_opn md_set
  rw [uM_ne (by omega), uM_ne (by omega), uM_ne (by omega), uM_ne (by omega), uM_ne (by omega)]
  unfold gm_uM
  rw [if_pos ⟨rfl, by omega⟩]
noncomputable def op_ck2 (l : Nat) (p0 p1 : Int) : Bool := (gm_tyv p2_O 227 (119 + 7 * (l : Int) + 5) (119 + 7 * (l : Int) + 5) p0 p1 && (gm_tyv p2_O 227 (119 + 7 * (l : Int) + 6) (119 + 7 * (l : Int) + 6) 0 299 && gm_tyv p2_O 227 14 14 1 24)) && ((List.range 24).all fun (o : Nat) => gm_tyv p2_O 227 (323 + 3 * (o : Int)) (323 + 3 * (o : Int)) 0 299 && (gm_tyv p2_O 227 (323 + 3 * (o : Int) + 1) (323 + 3 * (o : Int) + 1) l l && gm_tyv p2_O 227 (323 + 3 * (o : Int) + 2) (323 + 3 * (o : Int) + 2) p0 p1))
noncomputable def op_os (l : Nat) (p0 p1 : Int) : ck_Sum := ((3, 0, 0), 245, [.inr (.inr (.inl 226)), .inl (ck_one l), .inl (p0, p1, [])], ([], [], [(227, 124 + 7 * (l : Int), 124 + 7 * (l : Int), ck_one (-1))]), ([(227, 14, 14), (227, 124 + 7 * (l : Int), 125 + 7 * (l : Int)), (227, 323, 394)], []), [(.inr none, 245, ([], [], [(227, 124 + 7 * (l : Int), 124 + 7 * (l : Int), (p0, p1, []))]))])
theorem op_open {l : Nat} {p0 p1 : Int} (hl : l < 24) (hp : 0 ≤ p0) (hc : op_ck2 l p0 p1 = true) : ck_Ok p2_O X LX 319 (op_os l p0 p1) := by
  intro d σ vs n K R M hd hn hvs hnm hF hf
  obtain ⟨_, _, rfl, rfl, _, _, rfl, ⟨f, rfl, -, u1, u2, -⟩, _, _, rfl, ⟨p, rfl, u9, u3, u4, -⟩, rfl⟩ := hvs
  have u1 : (l : Int) ≤ f := u1
  have u2 : f ≤ (l : Int) := u2
  have u3 : p0 ≤ p := u3
  have u4 : p ≤ p1 := u4
  have u5 : f = (l : Int) := by omega
  subst u5
  have hn : n = 245 := hn
  subst hn
  have hd : 3 ≤ d := hd
  have h5 := (hf.2.2 (227, 124 + 7 * (l : Int), 124 + 7 * (l : Int), ck_one (-1)) List.mem_cons_self).2 (124 + 7 * (l : Int)) (Int.le_refl _) (Int.le_refl _)
  have h51 : (-1 : Int) ≤ M 227 (124 + 7 * (l : Int)) := h5.2.1
  have h52 : M 227 (124 + 7 * (l : Int)) ≤ (-1 : Int) := h5.2.2.1
  have h9 := ((gm_tyr_s hF op_t9).2 9 (Int.le_refl _) (Int.le_refl _)).2
  have h91 : (0 : Int) ≤ M 227 9 := h9.1
  have h92 : M 227 9 ≤ (299 : Int) := h9.2
  have h4 := ((gm_tyr_s hF op_t4).2 4 (Int.le_refl _) (Int.le_refl _)).2
  have h42 : M 227 4 ≤ (24 : Int) := h4.2
  have h14 := ((gm_tyr_s hF op_t14).2 14 (Int.le_refl _) (Int.le_refl _)).2
  have h141 : (0 : Int) ≤ M 227 14 := h14.1
  have hJ : j_J p2_ty K M := hF.2.2.2.2
  obtain ⟨⟨o7, o8, o9, oA⟩, tA, t7, t8, t9⟩ := hJ
  have hlt := jO_lt (f := M 227) hl o7 (by omega)
  refine w319 (md_mo hF) (md_kd hF md_o.1.2) (md_rf hF md_r.1.1) (by omega) ⟨by omega, by omega⟩ ⟨h141, by omega⟩ ?_
  obtain ⟨o, ho⟩ : ∃ o : Nat, M 227 14 = (o : Int) := ⟨(M 227 14).toNat, by omega⟩
  rw [ho]
  rw [ho] at h141 hlt
  unfold op_ck2 at hc
  simp only [Bool.and_eq_true] at hc
  obtain ⟨⟨c5, c6, c14⟩, hc⟩ := hc
  have hol := List.all_eq_true.mp hc o (List.mem_range.mpr (by omega))
  simp only [Bool.and_eq_true] at hol
  obtain ⟨c0, c1, c2⟩ := hol
  have w0 : ck_okW ([(227, 14, 14), (227, 124 + 7 * (l : Int), 125 + 7 * (l : Int)), (227, 323, 394)] : List (Nat × Int × Int)) 245 227 (124 + 7 * (l : Int)) (125 + 7 * (l : Int)) = true := by simp [ck_okW_def]
  have w3 : ck_okW ([(227, 14, 14), (227, 124 + 7 * (l : Int), 125 + 7 * (l : Int)), (227, 323, 394)] : List (Nat × Int × Int)) 245 227 323 394 = true := by simp [ck_okW_def]
  have w4 : ck_okW ([(227, 14, 14), (227, 124 + 7 * (l : Int), 125 + 7 * (l : Int)), (227, 323, 394)] : List (Nat × Int × Int)) 245 227 14 14 = true := by simp [ck_okW_def]
  refine ⟨⟨hF.1, hF.2.1, ?_, hF.2.2.2.1, ?_⟩, ?_, _, List.mem_cons_self, trivial, rfl, ⟨(fun _ h => nomatch h), (fun _ h => nomatch h), fun q hq => ?_⟩⟩
  · exact gm_Ft_M (gm_Ft_M (gm_Ft_M (gm_Ft_M (gm_Ft_M (gm_Ft_M hF.2.2.1 c5 u3 u4) c6 h91 h92) c0 h91 h92) c1 (Int.le_refl _) (Int.le_refl _)) c2 u3 u4) c14 (by omega) (by omega)
  · show j_J p2_ty K _
    unfold j_J
    rw [md_opn_f (by decide : ¬ 228 = 227), md_opn_f (by decide : ¬ 229 = 227), md_opn_f (by decide : ¬ 230 = 227)]
    refine ⟨⟨jO_open (l0 := l) hl o7 (md_opn_ne (by omega) (by omega) (by omega)) (by rw [md_opn_14, ho]) (by omega) (by rw [md_opn_5 ⟨by omega, by omega⟩ h141]; omega) (fun l2 hl2 => ⟨md_opn_ne (by omega) (by omega) (by omega), md_opn_ne (by omega) (by omega) (by omega), fun hne => md_opn_ne (by omega) (by omega) (by omega)⟩), o8, o9, oA⟩, tA, jT_cg (fun j j1 j2 => md_opn_ne (by omega) (by omega) (by omega)) t7, t8, t9⟩
  · exact ck_fr_M (ck_fr_M (ck_fr_M (ck_fr_M (ck_fr_M (ck_fr_M ck_fr_0 w0 (by omega) (by omega)) w0 (by omega) (by omega)) w3 (by omega) (by omega)) w3 (by omega) (by omega)) w3 (by omega) (by omega)) w4 (by omega) (by omega)
  · rw [List.mem_singleton.mp hq]
    refine ⟨by show (227 : Nat) ≤ 245; decide, fun j j1 j2 => ?_⟩
    have j1 : 124 + 7 * (l : Int) ≤ j := j1
    have j2 : j ≤ 124 + 7 * (l : Int) := j2
    have j3 : j = 124 + 7 * (l : Int) := by omega
    subst j3
    show gm_ir (md_opn M o l p 227 (124 + 7 * (l : Int))) ∧ ck_gi σ (p0, p1, []) (md_opn M o l p 227 (124 + 7 * (l : Int)))
    rw [md_opn_5 ⟨by omega, by omega⟩ h141]
    exact ⟨u9, u3, u4, fun _ h => nomatch h⟩
noncomputable def op_os0 (l : Nat) (p : ck_A) (f0 f1 t0 t1 : Int) : ck_Sum := ((3, 0, 0), 245, [.inr (.inr (.inl 226)), .inl (ck_one l), p], ([], [], [(227, 119 + 7 * (l : Int), 119 + 7 * (l : Int), (f0, f1, [])), (227, 120 + 7 * (l : Int), 120 + 7 * (l : Int), (t0, t1, []))]), ([], []), [])
theorem op_none {l : Nat} {p : ck_A} {f0 f1 t0 t1 : Int} (hl : l < 24) (hf0 : 0 ≤ f0) (ht : t1 < 0) : ck_Ok p2_O X LX 319 (op_os0 l p f0 f1 t0 t1) := by
  intro d σ vs n K R M hd hn hvs hnm hF hf
  have h0 := (hf.2.2 (227, 119 + 7 * (l : Int), 119 + 7 * (l : Int), (f0, f1, [])) List.mem_cons_self).2 (119 + 7 * (l : Int)) (Int.le_refl _) (Int.le_refl _)
  have h1 := (hf.2.2 (227, 120 + 7 * (l : Int), 120 + 7 * (l : Int), (t0, t1, [])) (List.mem_cons_of_mem _ List.mem_cons_self)).2 (120 + 7 * (l : Int)) (Int.le_refl _) (Int.le_refl _)
  have h01 : f0 ≤ M 227 (119 + 7 * (l : Int)) := h0.2.1
  have h11 : M 227 (120 + 7 * (l : Int)) ≤ t1 := h1.2.2.1
  have hJ : j_J p2_ty K M := hF.2.2.2.2
  have := hJ.1.1.2 l hl (by omega)
  omega
end OP
end
/-! 47.sl -/
section
/-! LINES OF THE LAW that hold, by hand: a line's steps are reckoned on a row of numbers. -/
set_option maxRecDepth 100000 in
/-- GlacierMailModel.lanes -/
noncomputable def p2_fo0 : ck_Sum := ((0, 0, 0), 245, [.inr (.inr (.inl 226))], ([], [], []), ([], []), [(.inr (some (.inl (0, 6, []))), 245, ([], [], []))])
set_option maxRecDepth 100000 in
theorem p2_fo0_s {X : Int → Int} {LX : Nat} : ck_Ok p2_O X LX 261 p2_fo0 := ck_okq (cuts := []) (f := 80) ⟨p2_nmu, ck_E0⟩ (by decide +kernel)
set_option maxRecDepth 100000 in
/-- GlacierMailModel.factOf -/
noncomputable def p2_fo1 : ck_Sum := ((1, 0, 0), 245, [.inr (.inr (.inl 226)), .inl ((-1), 10, []), .inl ((-2147483648), 2147483647, [])], ([], [], []), ([], []), [(.inr (some (.inl ((-2147483648), 2147483647, []))), 245, ([], [], [])), (.inr (some (.inl (0, 299, []))), 245, ([], [], []))])
set_option maxRecDepth 100000 in
theorem p2_fo1_s {X : Int → Int} {LX : Nat} : ck_Ok p2_O X LX 296 p2_fo1 := ck_okq (cuts := []) (f := 100) ⟨p2_nmu, ck_E1 (ck_S1 p2_fo0_s ck_S0) ck_E0⟩ (by decide +kernel)
noncomputable def sl_W : List (Nat × Int × Int) × List (Nat × Int) := ([(233, 0, 399)], [])
noncomputable def sl_o : List ck_Oc := [(.inr (some (.inl (0, 1, []))), 245, ([], [], []))]
noncomputable def sl_E : List (Nat × List ck_Sum) := [(296, [p2_fo1])]
noncomputable def sl_C (δ : Int) : ck_C := ([some (.inr (.inr (.inl 226))), none, some (.inl (0, 400, [(50, δ)])), some (.inl (396, 440, [(52, 0)])), some (.inl (0, 400, [(51, 1)])), none, none, none, none], ([], [], []), 0, .inl 2, true)
noncomputable def sl_A (lo hi a b : Int) : ck_AL := [some (.inr (.inr (.inl 226))), none, some (.inl (lo, hi, [(50, 0)])), some (.inl (396, 440, [(52, 0)])), some (.inl (0, 399, [(51, 0)])), some (.inl (a, b, [])), none, none, none]
theorem sl_g1 : ck_go p2_O none [] sl_E 295 2 245 sl_W sl_o [(20, sl_C 1)] 300 true [(20, sl_C 1, 0, 0, 245)] 0 0 48 (sl_A 0 399 (-1) 10) [] 245 ([], [], []) = true := by decide +kernel
theorem sl_g2 : ck_go p2_O none [] sl_E 295 2 245 sl_W sl_o [(20, sl_C 0)] 300 true [(20, sl_C 0, 0, 0, 245)] 0 0 48 (sl_A 1 400 14 14) [] 245 ([], [], []) = true := by decide +kernel
theorem sl_g3 : ck_go p2_O none [] sl_E 295 2 245 sl_W sl_o [(20, sl_C (-1))] 300 true [(20, sl_C (-1), 0, 0, 245)] 0 0 48 (sl_A 2 400 11 13) [] 245 ([], [], []) = true := by decide +kernel
theorem sl_g4 : ck_go p2_O none [] sl_E 295 2 245 sl_W sl_o [(20, sl_C (-1))] 300 true [(20, sl_C (-1), 0, 0, 245)] 0 0 48 (sl_A 2 400 15 999) [] 245 ([], [], []) = true := by decide +kernel
theorem sl_g0 : ck_go p2_O none [] [] 295 2 245 sl_W sl_o [] 100 true [] 0 0 259 [some (.inr (.inr (.inl 226))), none, some (.inl (0, 400, [])), none, none, none, none, none, none] [] 245 ([], [], []) = true := by decide +kernel
theorem sl_t : gm_tyr p2_O 227 395 395 = some (0, 12) := by decide +kernel
theorem sl_t2 : gm_tyr p2_O 227 444 1243 = some (-1, 999) := by decide +kernel
section SL
variable {X : Int → Int} {LX : Nat}
theorem sl_hE : ck_nmu p2_O ∧ ck_OkE p2_O X LX sl_E := ⟨p2_nmu, ck_E1 (ck_S1 p2_fo1_s ck_S0) ck_E0⟩
theorem sl_Qm {W : List (Nat × Int × Int) × List (Nat × Int)} {σ σ' : Nat → Int} {n0 n : Nat} {K0 K : gm_K} {R0 R : gm_R} {M0 M : gm_M} {o : gm_O} (h : ck_Q p2_O σ W n0 K0 R0 M0 sl_o o n K R M) : ck_Q p2_O σ' W n0 K0 R0 M0 sl_o o n K R M := by
  obtain ⟨h1, h2, oc, h3, h4, h5, h6⟩ := h
  rw [List.mem_singleton.mp h3] at h4 h5
  refine ⟨h1, h2, _, List.mem_cons_self, ?_, h5, ⟨(fun _ h => nomatch h), (fun _ h => nomatch h), (fun _ h => nomatch h)⟩⟩
  rcases o with u | x
  · rcases u with _ | v
    · exact h4
    · obtain ⟨x, rfl, h7, h8, h9, -⟩ := h4
      exact ⟨x, rfl, h7, h8, h9, fun _ h => nomatch h⟩
  · exact h4
noncomputable def sl_σ (σ : Nat → Int) (a b c : Int) : Nat → Int := fun s => if s = 50 then a else if s = 51 then b else if s = 52 then c else σ s
theorem sl_go {bc bs : Nat} {σ : Nat → Int} {K0 : gm_K} {R0 : gm_R} {M0 : gm_M} {K : gm_K} {R : gm_R} {M : gm_M} {L : gm_L} {lo hi a b δ i top k step : Int} (hcu : ck_cu [(20, sl_C δ)] = true) (hg : ck_go p2_O none [] sl_E 295 2 245 sl_W sl_o [(20, sl_C δ)] 300 true [(20, sl_C δ, 0, 0, 245)] 0 0 48 (sl_A lo hi a b) [] 245 ([], [], []) = true)
    (hF : gm_Fx p2_O 245 K R M) (hfr : ck_fr sl_W 245 K0 R0 M0 245 K R M) (hL : L.length = 9) (l0 : L[0]? = some (some (gm_vr 226))) (l2 : L[2]? = some (some (gm_vi top))) (l3 : L[3]? = some (some (gm_vi k))) (l4 : L[4]? = some (some (gm_vi i))) (l5 : L[5]? = some (some (gm_vi step))) (htop : (lo ≤ top ∧ top ≤ hi) ∧ 0 ≤ top ∧ top ≤ 400) (hk : 396 ≤ k ∧ k ≤ 440) (hii : 0 ≤ i ∧ i ≤ 399) (hs : (a ≤ step ∧ step ≤ b) ∧ -1 ≤ step ∧ step ≤ 999)
    (hx : ∀ (bc bs : Nat) (L : gm_L) (K : gm_K) (R : gm_R) (M : gm_M), gm_Fx p2_O 245 K R M → ck_fr sl_W 245 K0 R0 M0 245 K R M → L.length = 9 → L[0]? = some (some (gm_vr 226)) → L[2]? = some (some (gm_vi (top + δ))) → L[3]? = some (some (gm_vi k)) → L[4]? = some (some (gm_vi (i + 1))) → gm_Wp X LX 2 bc bs 295 20 L [] 245 K R M (ck_Q p2_O σ sl_W 245 K0 R0 M0 sl_o)) : gm_Wp X LX 2 bc bs 295 48 L [] 245 K R M (ck_Q p2_O σ sl_W 245 K0 R0 M0 sl_o) := by
  refine gm_Wp_mono (fun o n K R M h => sl_Qm (σ := sl_σ σ top i k) h) ?_
  refine gm_Wp_wk (Nat.le_refl _) (Nat.zero_le _) (Nat.zero_le _) (ck_go_s (σ0 := sl_σ σ top i k) (cuts := [(20, sl_C δ)]) hcu sl_hE ck_X0 ck_l0 300 true [(20, sl_C δ, 0, 0, 245)] 0 0 48 (sl_A lo hi a b) [] 245 ([], [], []) (sl_σ σ top i k) L [] K R M (fun _ _ => rfl) (fun z hz => ?_) ⟨hF, ⟨by rw [hL]; rfl, fun j b hb => ?_⟩, rfl, ⟨(fun _ h => nomatch h), (fun _ h => nomatch h), (fun _ h => nomatch h)⟩, hfr⟩ hg)
  · rw [List.mem_singleton.mp hz]
    refine ⟨List.mem_cons_self, fun v _ bc bs L K R M _ _ hS _ => ?_⟩
    obtain ⟨hF, hl, -, -, hfr⟩ := hS
    obtain ⟨u0, e0, g0⟩ := hl.2 0 (.inr (.inr (.inl 226))) rfl
    cases g0
    obtain ⟨u2, e2, x2, rfl, -, -, -, t2⟩ := hl.2 2 (.inl (0, 400, [(50, δ)])) rfl
    obtain ⟨u3, e3, x3, rfl, -, -, -, t3⟩ := hl.2 3 (.inl (396, 440, [(52, 0)])) rfl
    obtain ⟨u4, e4, x4, rfl, -, -, -, t4⟩ := hl.2 4 (.inl (0, 400, [(51, 1)])) rfl
    have y2 : x2 = top + δ := (t2 (50, δ) List.mem_cons_self).1 (show 50 < 1000000 by decide)
    have y3 : x3 = k + 0 := (t3 (52, 0) List.mem_cons_self).1 (show 52 < 1000000 by decide)
    have y4 : x4 = i + 1 := (t4 (51, 1) List.mem_cons_self).1 (show 51 < 1000000 by decide)
    rw [Int.add_zero] at y3
    subst y2 y3 y4
    exact gm_Wp_mono (fun o n K R M h => sl_Qm h) (hx bc bs L K R M hF hfr hl.1.symm e0 e2 e3 e4)
  · rcases j with _ | _ | _ | _ | _ | _ | j
    · cases hb; exact ⟨_, l0, rfl⟩
    · cases hb
    · cases hb; exact ⟨_, l2, top, rfl, ⟨by omega, by omega⟩, htop.1.1, htop.1.2, fun q hq => by rw [List.mem_singleton.mp hq]; exact ⟨fun _ => by show top = top + 0; omega, fun h => absurd h (by decide)⟩⟩
    · cases hb; exact ⟨_, l3, k, rfl, ⟨by omega, by omega⟩, hk.1, hk.2, fun q hq => by rw [List.mem_singleton.mp hq]; exact ⟨fun _ => by show k = k + 0; omega, fun h => absurd h (by decide)⟩⟩
    · cases hb; exact ⟨_, l4, i, rfl, ⟨by omega, by omega⟩, hii.1, hii.2, fun q hq => by rw [List.mem_singleton.mp hq]; exact ⟨fun _ => by show i = i + 0; omega, fun h => absurd h (by decide)⟩⟩
    · cases hb; exact ⟨_, l5, step, rfl, ⟨by omega, by omega⟩, hs.1.1, hs.1.2, fun _ h => nomatch h⟩
    · rcases j with _ | _ | _ | j <;> cases hb
theorem sl_hold {bc bs : Nat} {σ : Nat → Int} {K0 : gm_K} {R0 : gm_R} {M0 : gm_M} {line : Int} (hF0 : gm_Fx p2_O 245 K0 R0 M0) (hl : 0 ≤ line ∧ line < 12) (hc : line < M0 227 395) : gm_Wp X LX 2 bc bs 295 0 (gm_ent 295 [gm_vr 226, gm_vi line]) [] 245 K0 R0 M0 (ck_Q p2_O σ sl_W 245 K0 R0 M0 sl_o) := by
  have hJ : j_J p2_ty K0 M0 := hF0.2.2.2.2
  obtain ⟨-, -, t7, -, -⟩ := hJ
  obtain ⟨⟨a1, a2, a3⟩, G, g0, gs⟩ := t7 line hl.1 hl.2 hc
  have e1 : (395 : Int) + (3 + 4 * line) = 396 + 4 * line + 2 := by omega
  have e2 : (395 : Int) + (4 + 4 * line) = 396 + 4 * line + 3 := by omega
  dsimp only at a1 a2 a3 g0 gs
  rw [e1] at a1 a2 g0 gs
  rw [e2] at a2 a3 gs
  generalize hk : 396 + 4 * line = k at *
  generalize hfi : M0 227 (k + 2) = first at *
  generalize hla : M0 227 (k + 3) = last at *
  have key : ∀ (m : Nat) (i top : Int) (bc bs : Nat) (L : gm_L) (K : gm_K) (R : gm_R) (M : gm_M), last - i = (m : Int) → first ≤ i → i ≤ last → G i = top → 0 ≤ top → top ≤ i - first → gm_Fx p2_O 245 K R M → ck_fr sl_W 245 K0 R0 M0 245 K R M → L.length = 9 → L[0]? = some (some (gm_vr 226)) → L[2]? = some (some (gm_vi top)) → L[3]? = some (some (gm_vi k)) → L[4]? = some (some (gm_vi i)) → gm_Wp X LX 2 bc bs 295 20 L [] 245 K R M (ck_Q p2_O σ sl_W 245 K0 R0 M0 sl_o) := by
    intro m
    induction m with
    | zero =>
      intro i top bc bs L K R M hm h1 h2 hG h3 h4 hF hfr hL l0 l2 l3 l4
      have hM : ∀ j, M 227 j = M0 227 j := fun j => hfr.2.2.1 227 j (by decide) (fun w hw e => by rw [List.mem_singleton.mp hw] at e; exact absurd e.1 (by decide))
      have w1 : gm_w (k + 3) = k + 3 := gm_w_id (by omega) (by omega)
      refine gm_sz (gm_p_load (pc := 20) (i := .iload 4) (sr := 0) (j := 4) (by decide +kernel) rfl l4 rfl) ?_
      refine gm_sz (gm_p_load (pc := 22) (i := .aload_n 0) (sr := 2) (j := 0) (by decide +kernel) rfl l0 rfl) ?_
      refine gm_sz (gm_p_get (pc := 23) (ix := 13) (ci := 11) (j := 1) (by decide +kernel) (md_mo hF).1 (md_mo hF).2 (by decide +kernel)) ?_
      rw [if_pos (show gm_isr 11 1 = true by decide +kernel), md_rf hF md_r.1.1]
      refine gm_sz (gm_p_load (pc := 26) (i := .iload_n 3) (sr := 0) (j := 3) (by decide +kernel) rfl l3 rfl) ?_
      refine gm_sz (gm_p_const (pc := 27) (i := .iconst 3) (v := gm_vi 3) (by decide +kernel) (by decide +kernel)) ?_
      refine gm_sz (gm_p_bin (pc := 28) (i := .iadd) (f := fun x y => x + y) (by decide +kernel) rfl) ?_
      refine gm_sz (gm_p_iald (pc := 29) (by decide +kernel) (md_kd hF md_o.1.2).1.1 (md_kd hF md_o.1.2).1.2 (by rw [w1, (md_kd hF md_o.1.2).2]; omega)) ?_
      rw [w1]
      rw [hM, hla]
      refine gm_b_ic (cc := .ge) (pc := 30) (off := 229) (by decide +kernel) (by decide) (fun _ => ?_) (fun hp => ?_)
      · refine gm_Wp_wk (Nat.le_refl _) (Nat.zero_le _) (Nat.zero_le _) (ck_go_s (σ0 := σ) (cuts := []) (by decide) ⟨p2_nmu, ck_E0⟩ ck_X0 ck_l0 100 true [] 0 0 259 [some (.inr (.inr (.inl 226))), none, some (.inl (0, 400, [])), none, none, none, none, none, none] [] 245 ([], [], []) σ L [] K R M (fun _ _ => rfl) (fun z hz => nomatch hz) ⟨hF, ⟨by rw [hL]; rfl, fun j b hb => ?_⟩, rfl, ⟨(fun _ h => nomatch h), (fun _ h => nomatch h), (fun _ h => nomatch h)⟩, hfr⟩ sl_g0)
        rcases j with _ | _ | _ | j
        · cases hb; exact ⟨_, l0, rfl⟩
        · cases hb
        · cases hb; exact ⟨_, l2, top, rfl, ⟨by omega, by omega⟩, by show (0 : Int) ≤ top; omega, by show top ≤ (400 : Int); omega, fun _ h => nomatch h⟩
        · rcases j with _ | _ | _ | _ | _ | _ | j <;> cases hb
      · rw [gm_cm_w ⟨by omega, by omega⟩ ⟨by omega, by omega⟩] at hp
        have hp : ¬ last ≤ i := hp
        omega
    | succ m ih =>
      intro i top bc bs L K R M hm h1 h2 hG h3 h4 hF hfr hL l0 l2 l3 l4
      have hM : ∀ j, M 227 j = M0 227 j := fun j => hfr.2.2.1 227 j (by decide) (fun w hw e => by rw [List.mem_singleton.mp hw] at e; exact absurd e.1 (by decide))
      have w1 : gm_w (k + 3) = k + 3 := gm_w_id (by omega) (by omega)
      have w2' : gm_w (444 + 2 * i) = 444 + 2 * i := gm_w_id (by omega) (by omega)
      refine gm_sz (gm_p_load (pc := 20) (i := .iload 4) (sr := 0) (j := 4) (by decide +kernel) rfl l4 rfl) ?_
      refine gm_sz (gm_p_load (pc := 22) (i := .aload_n 0) (sr := 2) (j := 0) (by decide +kernel) rfl l0 rfl) ?_
      refine gm_sz (gm_p_get (pc := 23) (ix := 13) (ci := 11) (j := 1) (by decide +kernel) (md_mo hF).1 (md_mo hF).2 (by decide +kernel)) ?_
      rw [if_pos (show gm_isr 11 1 = true by decide +kernel), md_rf hF md_r.1.1]
      refine gm_sz (gm_p_load (pc := 26) (i := .iload_n 3) (sr := 0) (j := 3) (by decide +kernel) rfl l3 rfl) ?_
      refine gm_sz (gm_p_const (pc := 27) (i := .iconst 3) (v := gm_vi 3) (by decide +kernel) (by decide +kernel)) ?_
      refine gm_sz (gm_p_bin (pc := 28) (i := .iadd) (f := fun x y => x + y) (by decide +kernel) rfl) ?_
      refine gm_sz (gm_p_iald (pc := 29) (by decide +kernel) (md_kd hF md_o.1.2).1.1 (md_kd hF md_o.1.2).1.2 (by rw [w1, (md_kd hF md_o.1.2).2]; omega)) ?_
      rw [w1]
      rw [hM, hla]
      refine gm_b_ic (cc := .ge) (pc := 30) (off := 229) (by decide +kernel) (by decide) (fun hp => ?_) (fun _ => ?_)
      · rw [gm_cm_w ⟨by omega, by omega⟩ ⟨by omega, by omega⟩] at hp
        have hp : last ≤ i := hp
        omega
      refine gm_sz (gm_p_load (pc := 33) (i := .aload_n 0) (sr := 2) (j := 0) (by decide +kernel) rfl l0 rfl) ?_
      refine gm_sz (gm_p_get (pc := 34) (ix := 13) (ci := 11) (j := 1) (by decide +kernel) (md_mo hF).1 (md_mo hF).2 (by decide +kernel)) ?_
      rw [if_pos (show gm_isr 11 1 = true by decide +kernel), md_rf hF md_r.1.1]
      refine gm_sz (gm_p_const (pc := 37) (i := .sipush 444) (v := gm_vi 444) (by decide +kernel) (by decide +kernel)) ?_
      refine gm_sz (gm_p_const (pc := 40) (i := .iconst 2) (v := gm_vi 2) (by decide +kernel) (by decide +kernel)) ?_
      refine gm_sz (gm_p_load (pc := 41) (i := .iload 4) (sr := 0) (j := 4) (by decide +kernel) rfl l4 rfl) ?_
      refine gm_sz (gm_p_bin (pc := 43) (i := .imul) (f := fun x y => x * y) (by decide +kernel) rfl) ?_
      refine gm_sz (gm_p_bin (pc := 44) (i := .iadd) (f := fun x y => x + y) (by decide +kernel) rfl) ?_
      refine gm_sz (gm_p_iald (pc := 45) (by decide +kernel) (md_kd hF md_o.1.2).1.1 (md_kd hF md_o.1.2).1.2 (by rw [w2', (md_kd hF md_o.1.2).2]; omega)) ?_
      rw [w2']
      refine gm_sz (gm_p_stor (pc := 46) (i := .istore 5) (sr := 0) (j := 5) (by decide +kernel) rfl (show 5 + 0 < L.length by omega) rfl) ?_
      have hst := ((gm_tyr_s hF sl_t2).2 (444 + 2 * i) (by omega) (by omega)).2
      have hs1 : (-1 : Int) ≤ M 227 (444 + 2 * i) := hst.1
      have hs2 : M 227 (444 + 2 * i) ≤ (999 : Int) := hst.2
      have hj := gs i h1 (by omega)
      rw [show (395 : Int) + (49 + 2 * i) = 444 + 2 * i by omega, ← hM] at hj
      generalize hstep : M 227 (444 + 2 * i) = step at *
      rw [show gm_lst L 5 (gm_vi step) = L.set 5 (some (gm_vi step)) by
        have e : gm_lc L 5 = L := by
          show (match L[4]? with
            | some (some (.inr (.inl _))) => L.set 4 none
            | _ => L) = L
          rw [l4]
        show (gm_lc L 5).set 5 (some (gm_vi step)) = _
        rw [e]]
      have q0 : (L.set 5 (some (gm_vi step)))[0]? = some (some (gm_vr 226)) := by rw [List.getElem?_set, if_neg (by decide), l0]
      have q2 : (L.set 5 (some (gm_vi step)))[2]? = some (some (gm_vi top)) := by rw [List.getElem?_set, if_neg (by decide), l2]
      have q3 : (L.set 5 (some (gm_vi step)))[3]? = some (some (gm_vi k)) := by rw [List.getElem?_set, if_neg (by decide), l3]
      have q4 : (L.set 5 (some (gm_vi step)))[4]? = some (some (gm_vi i)) := by rw [List.getElem?_set, if_neg (by decide), l4]
      have q5 : (L.set 5 (some (gm_vi step)))[5]? = some (some (gm_vi step)) := by rw [List.getElem?_set, if_pos rfl, if_pos (by omega)]
      have qL : (L.set 5 (some (gm_vi step))).length = 9 := by rw [List.length_set, hL]
      by_cases c1 : step ≤ 10
      · obtain ⟨r1, r2⟩ := hj.1 c1
        refine sl_go (δ := 1) (by decide +kernel) sl_g1 hF hfr qL q0 q2 q3 q4 q5 ⟨⟨by omega, by omega⟩, by omega, by omega⟩ ⟨by omega, by omega⟩ ⟨by omega, by omega⟩ ⟨⟨by omega, by omega⟩, by omega, by omega⟩ (fun bc bs L K R M z1 z2 z3 z4 z5 z6 z7 => ih (i + 1) (top + 1) bc bs L K R M (by omega) (by omega) (by omega) (by omega) (by omega) (by omega) z1 z2 z3 z4 z5 z6 z7)
      · by_cases c2 : step = 14
        · obtain ⟨r1, r2⟩ := hj.2.1 c2
          refine sl_go (δ := 0) (by decide +kernel) sl_g2 hF hfr qL q0 q2 q3 q4 q5 ⟨⟨by omega, by omega⟩, by omega, by omega⟩ ⟨by omega, by omega⟩ ⟨by omega, by omega⟩ ⟨⟨by omega, by omega⟩, by omega, by omega⟩ (fun bc bs L K R M z1 z2 z3 z4 z5 z6 z7 => ih (i + 1) (top + 0) bc bs L K R M (by omega) (by omega) (by omega) (by omega) (by omega) (by omega) z1 z2 z3 z4 z5 z6 z7)
        · obtain ⟨r1, r2⟩ := hj.2.2 (by omega) c2
          by_cases c3 : step ≤ 13
          · refine sl_go (δ := -1) (by decide +kernel) sl_g3 hF hfr qL q0 q2 q3 q4 q5 ⟨⟨by omega, by omega⟩, by omega, by omega⟩ ⟨by omega, by omega⟩ ⟨by omega, by omega⟩ ⟨⟨by omega, by omega⟩, by omega, by omega⟩ (fun bc bs L K R M z1 z2 z3 z4 z5 z6 z7 => ih (i + 1) (top + -1) bc bs L K R M (by omega) (by omega) (by omega) (by omega) (by omega) (by omega) z1 z2 z3 z4 z5 z6 z7)
          · refine sl_go (δ := -1) (by decide +kernel) sl_g4 hF hfr qL q0 q2 q3 q4 q5 ⟨⟨by omega, by omega⟩, by omega, by omega⟩ ⟨by omega, by omega⟩ ⟨by omega, by omega⟩ ⟨⟨by omega, by omega⟩, by omega, by omega⟩ (fun bc bs L K R M z1 z2 z3 z4 z5 z6 z7 => ih (i + 1) (top + -1) bc bs L K R M (by omega) (by omega) (by omega) (by omega) (by omega) (by omega) z1 z2 z3 z4 z5 z6 z7)
  have w1 : gm_w (k + 2) = k + 2 := gm_w_id (by omega) (by omega)
  refine gm_sz (gm_p_const (pc := 0) (i := .iconst 0) (v := gm_vi 0) (by decide +kernel) (by decide +kernel)) ?_
  refine gm_sz (gm_p_stor (pc := 1) (i := .istore_n 2) (sr := 0) (j := 2) (by decide +kernel) rfl (show 2 + 0 < 9 by decide) rfl) ?_
  refine gm_sz (gm_p_const (pc := 2) (i := .sipush 396) (v := gm_vi 396) (by decide +kernel) (by decide +kernel)) ?_
  refine gm_sz (gm_p_const (pc := 5) (i := .iconst 4) (v := gm_vi 4) (by decide +kernel) (by decide +kernel)) ?_
  refine gm_sz (gm_p_load (pc := 6) (i := .iload_n 1) (sr := 0) (j := 1) (by decide +kernel) rfl rfl rfl) ?_
  refine gm_sz (gm_p_bin (pc := 7) (i := .imul) (f := fun x y => x * y) (by decide +kernel) rfl) ?_
  refine gm_sz (gm_p_bin (pc := 8) (i := .iadd) (f := fun x y => x + y) (by decide +kernel) rfl) ?_
  rw [hk]
  refine gm_sz (gm_p_stor (pc := 9) (i := .istore_n 3) (sr := 0) (j := 3) (by decide +kernel) rfl (show 3 + 0 < 9 by decide) rfl) ?_
  refine gm_sz (gm_p_load (pc := 10) (i := .aload_n 0) (sr := 2) (j := 0) (by decide +kernel) rfl rfl rfl) ?_
  refine gm_sz (gm_p_get (pc := 11) (ix := 13) (ci := 11) (j := 1) (by decide +kernel) (md_mo hF0).1 (md_mo hF0).2 (by decide +kernel)) ?_
  rw [if_pos (show gm_isr 11 1 = true by decide +kernel), md_rf hF0 md_r.1.1]
  refine gm_sz (gm_p_load (pc := 14) (i := .iload_n 3) (sr := 0) (j := 3) (by decide +kernel) rfl rfl rfl) ?_
  refine gm_sz (gm_p_const (pc := 15) (i := .iconst 2) (v := gm_vi 2) (by decide +kernel) (by decide +kernel)) ?_
  refine gm_sz (gm_p_bin (pc := 16) (i := .iadd) (f := fun x y => x + y) (by decide +kernel) rfl) ?_
  refine gm_sz (gm_p_iald (pc := 17) (by decide +kernel) (md_kd hF0 md_o.1.2).1.1 (md_kd hF0 md_o.1.2).1.2 (by rw [w1, (md_kd hF0 md_o.1.2).2]; omega)) ?_
  rw [w1]
  rw [hfi]
  refine gm_sz (gm_p_stor (pc := 18) (i := .istore 4) (sr := 0) (j := 4) (by decide +kernel) rfl (show 4 + 0 < 9 by decide) rfl) ?_
  exact key (last - first).toNat first 0 bc bs _ K0 R0 M0 (by omega) (by omega) a2 g0 (by omega) (by omega) hF0 ck_fr_0 rfl rfl rfl rfl rfl
noncomputable def sl_so : List ck_Oc := [(.inr (some (.inl ck_top)), 245, ([], [], []))]
/-- GlacierMailModel.sumOf -/
noncomputable def sl_S : ck_Sum := ((3, 0, 0), 245, [.inr (.inr (.inl 226)), .inl (0, 2, [])], ([], [], []), sl_W, sl_so)
theorem sl_S_s : ck_Ok p2_O X LX 294 sl_S := by
  intro d σ vs n K0 R0 M0 hd hn hvs _ hF0 _
  obtain ⟨_, _, rfl, rfl, _, _, rfl, ⟨kind, rfl, kk, -, -, -⟩, rfl⟩ := hvs
  have hn : n = 245 := hn
  subst hn
  refine gm_Wp_wk (d' := 3) (bc' := 0) (bs' := 0) hd (Nat.le_refl _) (Nat.le_refl _) ?_
  have w8 : gm_w 8 = 8 := by decide
  have w395 : gm_w 395 = 395 := by decide
  have ex : ∀ (sum nn : Int) (K : gm_K) (R : gm_R) (M : gm_M), gm_Fx p2_O 245 K R M → ck_fr sl_W 245 K0 R0 M0 245 K R M → gm_Wp X LX 3 0 0 294 78 [some (gm_vr 226), some (gm_vi kind), some (gm_vi sum), some (gm_vi nn)] [] 245 K R M (ck_Q p2_O σ sl_W 245 K0 R0 M0 sl_so) := by
    intro sum nn K R M hF hfr
    refine gm_sz (gm_p_load (pc := 78) (i := .iload_n 2) (sr := 0) (j := 2) (by decide +kernel) rfl rfl rfl) ?_
    refine ck_nv ?_
    exact gm_r_int (pc := 79) (by decide +kernel) (Or.inl (by decide +kernel)) ⟨hF, hfr, _, List.mem_cons_self, ⟨_, rfl, ck_w_ir _, ck_top_s _⟩, rfl, ⟨(fun _ h => nomatch h), (fun _ h => nomatch h), (fun _ h => nomatch h)⟩⟩
  have key : ∀ (m : Nat) (nn sum : Int) (K : gm_K) (R : gm_R) (M : gm_M), 12 - nn = (m : Int) → 0 ≤ nn → gm_Fx p2_O 245 K R M → ck_fr sl_W 245 K0 R0 M0 245 K R M → gm_Wp X LX 3 0 0 294 4 [some (gm_vr 226), some (gm_vi kind), some (gm_vi sum), some (gm_vi nn)] [] 245 K R M (ck_Q p2_O σ sl_W 245 K0 R0 M0 sl_so) := by
    intro m
    induction m with
    | zero =>
      intro nn sum K R M hm h0 hF hfr
      have ht := ((gm_tyr_s hF sl_t).2 395 (Int.le_refl _) (Int.le_refl _)).2
      have ht1 : (0 : Int) ≤ M 227 395 := ht.1
      have ht2 : M 227 395 ≤ (12 : Int) := ht.2
      refine gm_sz (gm_p_load (pc := 4) (i := .aload_n 0) (sr := 2) (j := 0) (by decide +kernel) rfl rfl rfl) ?_
      refine gm_sz (gm_p_get (pc := 5) (ix := 13) (ci := 11) (j := 1) (by decide +kernel) (md_mo hF).1 (md_mo hF).2 (by decide +kernel)) ?_
      rw [if_pos (show gm_isr 11 1 = true by decide +kernel), md_rf hF md_r.1.1]
      refine gm_sz (gm_p_const (pc := 8) (i := .bipush 8) (v := gm_vi 8) (by decide +kernel) (by decide +kernel)) ?_
      refine gm_sz (gm_p_iald (pc := 10) (by decide +kernel) (md_kd hF md_o.1.2).1.1 (md_kd hF md_o.1.2).1.2 (by rw [w8, (md_kd hF md_o.1.2).2]; omega)) ?_
      rw [w8]
      refine gm_sz (gm_p_const (pc := 11) (i := .iconst 1) (v := gm_vi 1) (by decide +kernel) (by decide +kernel)) ?_
      refine gm_b_ic (cc := .ne) (pc := 12) (off := 66) (by decide +kernel) (by decide) (fun _ => ex sum nn K R M hF hfr) (fun _ => ?_)
      refine gm_sz (gm_p_load (pc := 15) (i := .iload_n 3) (sr := 0) (j := 3) (by decide +kernel) rfl rfl rfl) ?_
      refine gm_sz (gm_p_load (pc := 16) (i := .aload_n 0) (sr := 2) (j := 0) (by decide +kernel) rfl rfl rfl) ?_
      refine gm_sz (gm_p_get (pc := 17) (ix := 13) (ci := 11) (j := 1) (by decide +kernel) (md_mo hF).1 (md_mo hF).2 (by decide +kernel)) ?_
      rw [if_pos (show gm_isr 11 1 = true by decide +kernel), md_rf hF md_r.1.1]
      refine gm_sz (gm_p_const (pc := 20) (i := .sipush 395) (v := gm_vi 395) (by decide +kernel) (by decide +kernel)) ?_
      refine gm_sz (gm_p_iald (pc := 23) (by decide +kernel) (md_kd hF md_o.1.2).1.1 (md_kd hF md_o.1.2).1.2 (by rw [w395, (md_kd hF md_o.1.2).2]; omega)) ?_
      rw [w395]
      refine gm_b_ic (cc := .ge) (pc := 24) (off := 54) (by decide +kernel) (by decide) (fun _ => ex sum nn K R M hF hfr) (fun hp => ?_)
      rw [gm_cm_w ⟨by omega, by omega⟩ ⟨by omega, by omega⟩] at hp
      have hp : ¬ M 227 395 ≤ nn := hp
      omega
    | succ m ih =>
      intro nn sum K R M hm h0 hF hfr
      have ht := ((gm_tyr_s hF sl_t).2 395 (Int.le_refl _) (Int.le_refl _)).2
      have ht1 : (0 : Int) ≤ M 227 395 := ht.1
      have ht2 : M 227 395 ≤ (12 : Int) := ht.2
      have wk : gm_w (396 + 4 * nn) = 396 + 4 * nn := gm_w_id (by omega) (by omega)
      have wk1 : gm_w (396 + 4 * nn + 1) = 396 + 4 * nn + 1 := gm_w_id (by omega) (by omega)
      have tail : ∀ (x : Int) (K : gm_K) (R : gm_R) (M : gm_M), gm_Fx p2_O 245 K R M → ck_fr sl_W 245 K0 R0 M0 245 K R M → gm_Wp X LX 3 0 0 294 70 [some (gm_vr 226), some (gm_vi kind), some (gm_vi sum), some (gm_vi nn)] [gm_vi x, gm_vi sum] 245 K R M (ck_Q p2_O σ sl_W 245 K0 R0 M0 sl_so) := by
        intro x K R M hF hfr
        refine gm_sz (gm_p_bin (pc := 70) (i := .iadd) (f := fun x y => x + y) (by decide +kernel) rfl) ?_
        refine gm_sz (gm_p_stor (pc := 71) (i := .istore_n 2) (sr := 0) (j := 2) (by decide +kernel) rfl (show 2 + 0 < 4 by decide) rfl) ?_
        refine gm_sz (gm_p_iinc (pc := 72) (j := 3) (z := 1) (x := nn) (by decide +kernel) rfl) ?_
        refine gm_sz (gm_p_goto (pc := 75) (off := -71) (by decide +kernel) (by decide)) ?_
        exact ih (nn + 1) (sum + x) K R M (by omega) (by omega) hF hfr
      have t69 : ∀ (K : gm_K) (R : gm_R) (M : gm_M), gm_Fx p2_O 245 K R M → ck_fr sl_W 245 K0 R0 M0 245 K R M → gm_Wp X LX 3 0 0 294 69 [some (gm_vr 226), some (gm_vi kind), some (gm_vi sum), some (gm_vi nn)] [gm_vi sum] 245 K R M (ck_Q p2_O σ sl_W 245 K0 R0 M0 sl_so) := by
        intro K R M hF hfr
        refine gm_sz (gm_p_const (pc := 69) (i := .iconst 0) (v := gm_vi 0) (by decide +kernel) (by decide +kernel)) ?_
        exact tail 0 K R M hF hfr
      refine gm_sz (gm_p_load (pc := 4) (i := .aload_n 0) (sr := 2) (j := 0) (by decide +kernel) rfl rfl rfl) ?_
      refine gm_sz (gm_p_get (pc := 5) (ix := 13) (ci := 11) (j := 1) (by decide +kernel) (md_mo hF).1 (md_mo hF).2 (by decide +kernel)) ?_
      rw [if_pos (show gm_isr 11 1 = true by decide +kernel), md_rf hF md_r.1.1]
      refine gm_sz (gm_p_const (pc := 8) (i := .bipush 8) (v := gm_vi 8) (by decide +kernel) (by decide +kernel)) ?_
      refine gm_sz (gm_p_iald (pc := 10) (by decide +kernel) (md_kd hF md_o.1.2).1.1 (md_kd hF md_o.1.2).1.2 (by rw [w8, (md_kd hF md_o.1.2).2]; omega)) ?_
      rw [w8]
      refine gm_sz (gm_p_const (pc := 11) (i := .iconst 1) (v := gm_vi 1) (by decide +kernel) (by decide +kernel)) ?_
      refine gm_b_ic (cc := .ne) (pc := 12) (off := 66) (by decide +kernel) (by decide) (fun _ => ex sum nn K R M hF hfr) (fun _ => ?_)
      refine gm_sz (gm_p_load (pc := 15) (i := .iload_n 3) (sr := 0) (j := 3) (by decide +kernel) rfl rfl rfl) ?_
      refine gm_sz (gm_p_load (pc := 16) (i := .aload_n 0) (sr := 2) (j := 0) (by decide +kernel) rfl rfl rfl) ?_
      refine gm_sz (gm_p_get (pc := 17) (ix := 13) (ci := 11) (j := 1) (by decide +kernel) (md_mo hF).1 (md_mo hF).2 (by decide +kernel)) ?_
      rw [if_pos (show gm_isr 11 1 = true by decide +kernel), md_rf hF md_r.1.1]
      refine gm_sz (gm_p_const (pc := 20) (i := .sipush 395) (v := gm_vi 395) (by decide +kernel) (by decide +kernel)) ?_
      refine gm_sz (gm_p_iald (pc := 23) (by decide +kernel) (md_kd hF md_o.1.2).1.1 (md_kd hF md_o.1.2).1.2 (by rw [w395, (md_kd hF md_o.1.2).2]; omega)) ?_
      rw [w395]
      refine gm_b_ic (cc := .ge) (pc := 24) (off := 54) (by decide +kernel) (by decide) (fun _ => ex sum nn K R M hF hfr) (fun hp => ?_)
      rw [gm_cm_w ⟨by omega, by omega⟩ ⟨by omega, by omega⟩] at hp
      have hp : ¬ M 227 395 ≤ nn := hp
      refine gm_sz (gm_p_load (pc := 27) (i := .iload_n 2) (sr := 0) (j := 2) (by decide +kernel) rfl rfl rfl) ?_
      refine gm_sz (gm_p_load (pc := 28) (i := .aload_n 0) (sr := 2) (j := 0) (by decide +kernel) rfl rfl rfl) ?_
      refine gm_sz (gm_p_get (pc := 29) (ix := 13) (ci := 11) (j := 1) (by decide +kernel) (md_mo hF).1 (md_mo hF).2 (by decide +kernel)) ?_
      rw [if_pos (show gm_isr 11 1 = true by decide +kernel), md_rf hF md_r.1.1]
      refine gm_sz (gm_p_const (pc := 32) (i := .sipush 396) (v := gm_vi 396) (by decide +kernel) (by decide +kernel)) ?_
      refine gm_sz (gm_p_const (pc := 35) (i := .iconst 4) (v := gm_vi 4) (by decide +kernel) (by decide +kernel)) ?_
      refine gm_sz (gm_p_load (pc := 36) (i := .iload_n 3) (sr := 0) (j := 3) (by decide +kernel) rfl rfl rfl) ?_
      refine gm_sz (gm_p_bin (pc := 37) (i := .imul) (f := fun x y => x * y) (by decide +kernel) rfl) ?_
      refine gm_sz (gm_p_bin (pc := 38) (i := .iadd) (f := fun x y => x + y) (by decide +kernel) rfl) ?_
      refine gm_sz (gm_p_iald (pc := 39) (by decide +kernel) (md_kd hF md_o.1.2).1.1 (md_kd hF md_o.1.2).1.2 (by rw [wk, (md_kd hF md_o.1.2).2]; omega)) ?_
      rw [wk]
      refine gm_sz (gm_p_load (pc := 40) (i := .iload_n 1) (sr := 0) (j := 1) (by decide +kernel) rfl rfl rfl) ?_
      refine gm_b_ic (cc := .ne) (pc := 41) (off := 28) (by decide +kernel) (by decide) (fun _ => t69 K R M hF hfr) (fun _ => ?_)
      refine gm_sz (gm_p_load (pc := 44) (i := .aload_n 0) (sr := 2) (j := 0) (by decide +kernel) rfl rfl rfl) ?_
      refine gm_sz (gm_p_load (pc := 45) (i := .iload_n 3) (sr := 0) (j := 3) (by decide +kernel) rfl rfl rfl) ?_
      refine gm_c_virt (k := 226) (ci := 11) (mj := 295) (ix := 327) (pc := 46) (as := [gm_vi nn]) (st := [gm_vi sum]) (d' := 2) (bc' := 0) (bs' := 0) (by decide +kernel) (by decide +kernel) (by decide +kernel) (by decide +kernel) (md_mo hF).1 (md_mo hF).2 (by decide) (by decide +kernel) (show 1 = gm_na 295 by decide +kernel) (fun v hv => by rw [List.mem_singleton.mp hv]; simp [gm_sort]) (show 1 + 1 ≤ gm_ml 295 by decide +kernel) (Nat.le_of_ble_eq_true rfl) (by decide) (Nat.zero_le _) (Nat.zero_le _) ?_
      refine gm_Wp_mono (fun o n K1 R1 M1 h => ?_) (sl_hold (σ := σ) hF ⟨h0, by omega⟩ (by omega))
      obtain ⟨f1, f2, oc, f3, f4, f5, -⟩ := h
      rw [List.mem_singleton.mp f3] at f4 f5
      have f5 : n = 245 := f5
      subst f5
      have f6 := ck_fr_tr hfr f2 (by decide) (by decide)
      rcases o with (_ | v) | x
      · exact absurd f4 id
      · obtain ⟨b, rfl, -, -, -, -⟩ := f4
        show gm_Wp X LX 3 0 0 294 49 [some (gm_vr 226), some (gm_vi kind), some (gm_vi sum), some (gm_vi nn)] [gm_vi b, gm_vi sum] 245 K1 R1 M1 (ck_Q p2_O σ sl_W 245 K0 R0 M0 sl_so)
        refine gm_b_if (cc := .eq) (pc := 49) (off := 20) (by decide +kernel) (by decide) (fun _ => t69 K1 R1 M1 f1 f6) (fun _ => ?_)
        refine gm_sz (gm_p_load (pc := 52) (i := .aload_n 0) (sr := 2) (j := 0) (by decide +kernel) rfl rfl rfl) ?_
        refine gm_sz (gm_p_get (pc := 53) (ix := 13) (ci := 11) (j := 1) (by decide +kernel) (md_mo f1).1 (md_mo f1).2 (by decide +kernel)) ?_
        rw [if_pos (show gm_isr 11 1 = true by decide +kernel), md_rf f1 md_r.1.1]
        refine gm_sz (gm_p_const (pc := 56) (i := .sipush 396) (v := gm_vi 396) (by decide +kernel) (by decide +kernel)) ?_
        refine gm_sz (gm_p_const (pc := 59) (i := .iconst 4) (v := gm_vi 4) (by decide +kernel) (by decide +kernel)) ?_
        refine gm_sz (gm_p_load (pc := 60) (i := .iload_n 3) (sr := 0) (j := 3) (by decide +kernel) rfl rfl rfl) ?_
        refine gm_sz (gm_p_bin (pc := 61) (i := .imul) (f := fun x y => x * y) (by decide +kernel) rfl) ?_
        refine gm_sz (gm_p_bin (pc := 62) (i := .iadd) (f := fun x y => x + y) (by decide +kernel) rfl) ?_
        refine gm_sz (gm_p_const (pc := 63) (i := .iconst 1) (v := gm_vi 1) (by decide +kernel) (by decide +kernel)) ?_
        refine gm_sz (gm_p_bin (pc := 64) (i := .iadd) (f := fun x y => x + y) (by decide +kernel) rfl) ?_
        refine gm_sz (gm_p_iald (pc := 65) (by decide +kernel) (md_kd f1 md_o.1.2).1.1 (md_kd f1 md_o.1.2).1.2 (by rw [wk1, (md_kd f1 md_o.1.2).2]; omega)) ?_
        rw [wk1]
        refine gm_sz (gm_p_goto (pc := 66) (off := 4) (by decide +kernel) (by decide)) ?_
        exact tail _ K1 R1 M1 f1 f6
      · exact absurd f4 id
  refine gm_sz (gm_p_const (pc := 0) (i := .iconst 0) (v := gm_vi 0) (by decide +kernel) (by decide +kernel)) ?_
  refine gm_sz (gm_p_stor (pc := 1) (i := .istore_n 2) (sr := 0) (j := 2) (by decide +kernel) rfl (show 2 + 0 < 4 by decide) rfl) ?_
  refine gm_sz (gm_p_const (pc := 2) (i := .iconst 0) (v := gm_vi 0) (by decide +kernel) (by decide +kernel)) ?_
  refine gm_sz (gm_p_stor (pc := 3) (i := .istore_n 3) (sr := 0) (j := 3) (by decide +kernel) rfl (show 3 + 0 < 4 by decide) rfl) ?_
  exact key 12 0 0 K0 R0 M0 (by decide) (by decide) hF0 ck_fr_0
end SL
end
/-! 48.gy -/
section
/-! YEARS of the class: how many there may be is looked at as a difference, by hand. -/
section GY
variable {X : Int → Int} {LX : Nat}
end GY
end
/-! 70.jg -/
section
/-! THE REFERENCE'S law(): what is laid down of a text, counted. -/
/-- steps from a to b, reckoned, leave h numbers -/
noncomputable def jD (f : Int → Int) (a b h : Int) : Prop := ∃ G : Int → Int, G a = 0 ∧ G b = h ∧ ∀ i, a ≤ i → i < b → jS (f (49 + 2 * i)) (G i) (G (i + 1))
/-- the first c lines are whole, up to step e -/
noncomputable def jL (f : Int → Int) (c e : Int) : Prop := ∀ n : Int, 0 ≤ n → n < c → n < 12 → (0 ≤ f (3 + 4 * n) ∧ f (3 + 4 * n) ≤ f (4 + 4 * n) ∧ f (4 + 4 * n) ≤ e) ∧ ∃ G : Int → Int, G (f (3 + 4 * n)) = 0 ∧ ∀ i, f (3 + 4 * n) ≤ i → i < f (4 + 4 * n) → jS (f (49 + 2 * i)) (G i) (G (i + 1))
theorem jD_cg {f g : Int → Int} {a b h : Int} (h1 : ∀ i, a ≤ i → i < b → g (49 + 2 * i) = f (49 + 2 * i)) (hf : jD f a b h) : jD g a b h := by
  obtain ⟨G, g1, g2, g3⟩ := hf
  refine ⟨G, g1, g2, fun i h2 h3 => ?_⟩
  rw [h1 i h2 h3]
  exact g3 i h2 h3
theorem jL_cg {f g : Int → Int} {c e : Int} (h1 : ∀ i, 0 ≤ i → i < e → g (49 + 2 * i) = f (49 + 2 * i)) (h2 : ∀ n : Int, 0 ≤ n → n < c → n < 12 → g (3 + 4 * n) = f (3 + 4 * n) ∧ g (4 + 4 * n) = f (4 + 4 * n)) (hf : jL f c e) : jL g c e := by
  intro n n1 n2 n3
  obtain ⟨e1, e2⟩ := h2 n n1 n2 n3
  obtain ⟨⟨a1, a2, a3⟩, G, g1, g2⟩ := hf n n1 n2 n3
  rw [e1, e2]
  refine ⟨⟨a1, a2, a3⟩, G, g1, fun i i1 i2 => ?_⟩
  rw [h1 i (by omega) (by omega)]
  exact g2 i i1 i2
theorem jL_e {f : Int → Int} {c e e' : Int} (h : e ≤ e') (hf : jL f c e) : jL f c e' := by
  intro n n1 n2 n3
  obtain ⟨⟨a1, a2, a3⟩, G⟩ := hf n n1 n2 n3
  exact ⟨⟨a1, a2, by omega⟩, G⟩
theorem jL_0 {f : Int → Int} {e : Int} : jL f 0 e := fun n n1 n2 _ => by omega
theorem jD_0 {f : Int → Int} {a : Int} : jD f a a 0 := ⟨fun _ => 0, rfl, rfl, fun i h1 h2 => by omega⟩
/-- a step more -/
theorem jD_s {f g : Int → Int} {a b h s h' : Int} (hab : a ≤ b) (hf : jD f a b h) (hs : jS s h h') (h1 : ∀ i, a ≤ i → i < b → g (49 + 2 * i) = f (49 + 2 * i)) (h2 : g (49 + 2 * b) = s) : jD g a (b + 1) h' := by
  obtain ⟨G, g1, g2, g3⟩ := hf
  refine ⟨fun i => if i = b + 1 then h' else G i, ?_, ?_, fun i i1 i2 => ?_⟩
  · show (if a = b + 1 then h' else G a) = 0
    rw [if_neg (by omega)]
    exact g1
  · show (if b + 1 = b + 1 then h' else G (b + 1)) = h'
    rw [if_pos rfl]
  · show jS (g (49 + 2 * i)) (if i = b + 1 then h' else G i) (if i + 1 = b + 1 then h' else G (i + 1))
    rw [if_neg (by omega)]
    by_cases e : i = b
    · rw [if_pos (by omega), e, h2, g2]
      exact hs
    · rw [if_neg (by omega), h1 i i1 (by omega)]
      exact g3 i i1 (by omega)
/-- no more numbers than steps -/
theorem jD_le {f : Int → Int} {a b h : Int} (hab : a ≤ b) (hf : jD f a b h) : h ≤ b - a := by
  obtain ⟨G, g1, g2, g3⟩ := hf
  have key : ∀ (m : Nat) (i : Int), i - a = (m : Int) → i ≤ b → G i ≤ i - a := by
    intro m
    induction m with
    | zero =>
      intro i h1 _
      have : i = a := by omega
      subst this
      omega
    | succ m ih =>
      intro i h1 h2
      have h3 := ih (i - 1) (by omega) (by omega)
      obtain ⟨s1, s2, s3⟩ := g3 (i - 1) (by omega) (by omega)
      rw [show i - 1 + 1 = i by omega] at s1 s2 s3
      generalize hk : f (49 + 2 * (i - 1)) = k at *
      by_cases c1 : k ≤ 10
      · have := s1 c1; omega
      · by_cases c2 : k = 14
        · have := s2 c2; omega
        · have := s3 (by omega) c2; omega
  rw [← g2]
  exact key (b - a).toNat b (by omega) (by omega)
/-- lines and steps: a text -/
theorem jT_of {f : Int → Int} {c e : Int} (he : e ≤ 400) (h0 : f 0 ≤ c) (hf : jL f c e) : jT f := by
  intro n n1 n2 n3
  obtain ⟨⟨a1, a2, a3⟩, G⟩ := hf n n1 (by omega) n2
  exact ⟨⟨a1, a2, by omega⟩, G⟩
/-- the line that was begun at a is whole -/
theorem jL_s {f g : Int → Int} {c a b h : Int} (hc : 0 ≤ c) (ha : 0 ≤ a) (hab : a ≤ b) (hb : b ≤ 400) (hf : jL f c a) (hd : jD f a b h) (h3 : f (3 + 4 * c) = a) (h4 : g (4 + 4 * c) = b) (hg : ∀ j, ¬ j = 4 + 4 * c → g j = f j) (h12 : c < 12) : jL g (c + 1) b := by
  intro n n1 n2 n3
  have hst : ∀ i : Int, 0 ≤ i → g (49 + 2 * i) = f (49 + 2 * i) := fun i hi => hg _ (by omega)
  by_cases e : n = c
  · subst e
    rw [h4, hg _ (by omega), h3]
    obtain ⟨G, g1, g2, g3⟩ := hd
    refine ⟨⟨ha, hab, by omega⟩, G, g1, fun i i1 i2 => ?_⟩
    rw [hst i (by omega)]
    exact g3 i i1 i2
  · obtain ⟨⟨a1, a2, a3⟩, G, g1, g2⟩ := hf n n1 (by omega) n3
    rw [hg _ (by omega), hg _ (by omega)]
    refine ⟨⟨a1, a2, by omega⟩, G, g1, fun i i1 i2 => ?_⟩
    rw [hst i (by omega)]
    exact g2 i i1 i2
noncomputable def jX (M : gm_M) : Prop := ((M 0 4 = M 226 9 - M 226 11 ∧ M 0 5 = M 0 3 + M 0 4 ∧ M 0 3 = M 226 11 - M 226 15) ∧ (0 ≤ M 0 1 ∧ M 0 1 ≤ M 226 15 ∧ M 226 15 ≤ 400) ∧ (M 0 6 = 1 → (0 ≤ M 0 2 ∧ M 0 2 < 12) ∧ M 227 (1244 + (3 + 4 * M 0 2)) = M 0 1)) ∧ jD (fun j => M 227 (1244 + j)) (M 0 1) (M 226 15) (M 0 0) ∧ jL (fun j => M 227 (1244 + j)) (M 0 2) (M 0 1)
noncomputable def jG (t : List (Int × Int × Int × Int)) (K : gm_K) (M : gm_M) : Prop := j_J t K M ∧ jX M
noncomputable def jg_e (k : Nat) : List (Int × Int) := if k = 0 then [(0, 6)] else if k = 226 then [(9, 9), (11, 11), (15, 15)] else if k = 227 then [(1247, 1248), (1251, 1252), (1255, 1256), (1259, 1260), (1263, 1264), (1267, 1268), (1271, 1272), (1275, 1276), (1279, 1280), (1283, 1284), (1287, 1288), (1291, 1292), (1293, 2092)] else []
noncomputable def jg_fp (k : Nat) : List (Int × Int) := j_fp k ++ jg_e k
theorem jg_l : (List.range 12).all (fun (n : Nat) => decide ((1247 + 4 * (n : Int), 1248 + 4 * (n : Int)) ∈ jg_e 227)) = true := by decide +kernel
theorem jX_cg {M M' : gm_M} (h : ∀ k r, r ∈ jg_e k → ∀ j, r.1 ≤ j → j ≤ r.2 → M' k j = M k j) (hX : jX M) : jX M' := by
  have h0 : ∀ j, 0 ≤ j → j ≤ 6 → M' 0 j = M 0 j := fun j h1 h2 => h 0 (0, 6) (by decide) j h1 h2
  have h9 : M' 226 9 = M 226 9 := h 226 (9, 9) (by decide) 9 (by decide) (by decide)
  have h11 : M' 226 11 = M 226 11 := h 226 (11, 11) (by decide) 11 (by decide) (by decide)
  have h15 : M' 226 15 = M 226 15 := h 226 (15, 15) (by decide) 15 (by decide) (by decide)
  have hs : ∀ j, 49 ≤ j → j ≤ 848 → M' 227 (1244 + j) = M 227 (1244 + j) := fun j h1 h2 => h 227 (1293, 2092) (by decide +kernel) _ (by dsimp only; omega) (by dsimp only; omega)
  have hl : ∀ n : Int, 0 ≤ n → n < 12 → M' 227 (1244 + (3 + 4 * n)) = M 227 (1244 + (3 + 4 * n)) ∧ M' 227 (1244 + (4 + 4 * n)) = M 227 (1244 + (4 + 4 * n)) := by
    intro n n1 n2
    obtain ⟨m, rfl⟩ : ∃ m : Nat, n = (m : Int) := ⟨n.toNat, by omega⟩
    have hm := of_decide_eq_true (List.all_eq_true.mp jg_l m (List.mem_range.mpr (by omega)))
    exact ⟨h 227 _ hm _ (by dsimp only; omega) (by dsimp only; omega), h 227 _ hm _ (by dsimp only; omega) (by dsimp only; omega)⟩
  obtain ⟨⟨⟨a1, a2, a3⟩, ⟨b1, b2, b3⟩, c1⟩, d1, e1⟩ := hX
  unfold jX
  rw [h0 0 (by decide) (by decide), h0 1 (by decide) (by decide), h0 2 (by decide) (by decide), h0 3 (by decide) (by decide), h0 4 (by decide) (by decide), h0 5 (by decide) (by decide), h0 6 (by decide) (by decide), h9, h11, h15]
  refine ⟨⟨⟨a1, a2, a3⟩, ⟨b1, b2, b3⟩, fun h6 => ?_⟩, jD_cg (fun i i1 i2 => hs _ (by omega) (by omega)) d1, jL_cg (fun i i1 i2 => hs _ (by omega) (by omega)) (fun n n1 _ n3 => hl n n1 n3) e1⟩
  obtain ⟨c2, c3⟩ := c1 h6
  exact ⟨c2, by rw [(hl _ c2.1 c2.2).1]; exact c3⟩
theorem jg_h {t : List (Int × Int × Int × Int)} : gm_hP jg_fp (jG t) (some (226, 9, 11)) := by
  refine ⟨fun K K' M M' hK h hJ => ⟨j_h K K' M M' (fun k r hr => hK k r (List.mem_append_left _ hr)) (fun k r hr => h k r (List.mem_append_left _ hr)) hJ.1, jX_cg (fun k r hr => h k r (List.mem_append_right _ hr)) hJ.2⟩, fun g hg => ?_⟩
  cases hg
  refine ⟨fun K M hJ => ?_, ⟨by decide, by decide⟩, fun K M M' hJ h e4 e5 e3 => ?_⟩
  · obtain ⟨-, ⟨⟨a1, a2, a3⟩, ⟨b1, b2, b3⟩, -⟩, -⟩ := hJ
    exact ⟨a1, a2, by show M 0 3 ≤ M 226 11; omega⟩
  · have hM : ∀ c, ¬ c = 226 → ¬ c = 0 → M' c = M c := fun c c1 c2 => funext fun j => h c j (fun e => c1 e.1) (fun e => c2 e.1)
    have h0 : ∀ j, ¬ (j = 3 ∨ j = 4 ∨ j = 5) → M' 0 j = M 0 j := fun j hj => h 0 j (fun e => absurd e.1 (by decide)) (fun e => hj e.2)
    have h15 : M' 226 15 = M 226 15 := h 226 15 (fun e => absurd e.2 (by decide)) (fun e => absurd e.1 (by decide))
    obtain ⟨hJ, ⟨⟨a1, a2, a3⟩, ⟨b1, b2, b3⟩, c1⟩, d1, e1⟩ := hJ
    have e4 : M' 0 4 = M' 226 9 - M' 226 11 := e4
    have e3 : M' 0 3 - M' 226 11 = M 0 3 - M 226 11 := e3
    refine ⟨?_, ?_⟩
    · unfold j_J at hJ ⊢
      rw [hM 227 (by decide) (by decide), hM 228 (by decide) (by decide), hM 229 (by decide) (by decide), hM 230 (by decide) (by decide)]
      exact hJ
    · unfold jX
      rw [h0 0 (by decide), h0 1 (by decide), h0 2 (by decide), h0 6 (by decide), h15, hM 227 (by decide) (by decide)]
      exact ⟨⟨⟨e4, e5, by omega⟩, ⟨b1, b2, b3⟩, c1⟩, d1, e1⟩
noncomputable def pg_nm : List (Nat × Nat × Int) := p2_nm ++ [(30, 0, 0), (31, 0, 3), (32, 0, 4), (33, 0, 5)]
noncomputable abbrev pg_O : gm_Or := ck_OG p2_T jg_fp (jG p2_ty) pg_nm (some (226, 9, 11)) jg_h
theorem pg_nmk : pg_nm.all (fun q => decide (pg_nm.find? (fun p => p.1 == q.1) = some q)) = true := by decide +kernel
theorem pg_nmu : ck_nmu pg_O := fun q hq => of_decide_eq_true (List.all_eq_true.mp pg_nmk q hq)
theorem pg_p2 {n : Nat} {K : gm_K} {R : gm_R} {M : gm_M} (h : gm_Fx pg_O n K R M) : gm_Fx p2_O n K R M := ⟨h.1, h.2.1, h.2.2.1, fun k r hr => h.2.2.2.1 k r (List.mem_append_left _ hr), h.2.2.2.2.1⟩
theorem p2_pg {n : Nat} {K : gm_K} {R : gm_R} {M : gm_M} (h : gm_Fx p2_O n K R M) (hX : jX M) : gm_Fx pg_O n K R M := by
  refine ⟨h.1, h.2.1, h.2.2.1, fun k r hr => ?_, h.2.2.2.2, hX⟩
  rcases List.mem_append.mp hr with hr | hr
  · exact h.2.2.2.1 k r hr
  · have h1 := (md_mo h).1.2
    have h2 := (md_kd h md_o.1.2).1.1.2
    unfold jg_e at hr
    split at hr
    · omega
    · split at hr
      · omega
      · split at hr
        · omega
        · cases hr
end
