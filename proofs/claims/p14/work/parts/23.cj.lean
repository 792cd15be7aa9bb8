/-! THE CHECKER: every instruction. -/
def ck_ho (σ : Nat → Int) : (Nat ⊕ Option ck_A) → gm_O → Prop
  | .inl x, .inr y => x = y
  | .inr none, .inl none => True
  | .inr (some a), .inl (some v) => ck_ga σ a v
  | _, _ => False
/-- how a method ends that the checker has seen -/
abbrev ck_Q (O : gm_Or) (σ : Nat → Int) (W : List (Nat × Int × Int) × List (Nat × Int)) (n0 : Nat) (K0 : gm_K) (R0 : gm_R) (M0 : gm_M) (outs : List ck_Oc) : gm_Q := fun o n K R M => gm_Fx O n K R M ∧ ck_fr W n0 K0 R0 M0 n K R M ∧ ∃ oc ∈ outs, ck_ho σ oc.1 o ∧ n = oc.2.1 ∧ ck_gf σ oc.2.2 n K R M
def ck_gas (σ : Nat → Int) : List ck_A → List gm_V → Prop
  | [], vs => vs = []
  | a :: as, vs => ∃ v ws, vs = v :: ws ∧ ck_ga σ a v ∧ ck_gas σ as ws
/-- what is said of a method -/
def ck_Ok (O : gm_Or) (X : Int → Int) (LX mj : Nat) (S : ck_Sum) : Prop := ∀ (d : Nat) (σ : Nat → Int) (vs : List gm_V) (n : Nat) (K : gm_K) (R : gm_R) (M : gm_M), S.1.1 ≤ d → n = S.2.1 → ck_gas σ S.2.2.1 vs → (∀ q ∈ O.2.2.nm, σ q.1 = M q.2.1 q.2.2) → gm_Fx O n K R M → ck_gf σ S.2.2.2.1 n K R M → gm_Wp X LX d S.1.2.1 S.1.2.2 mj 0 (gm_ent mj vs) [] n K R M (ck_Q O σ S.2.2.2.2.1 n K R M S.2.2.2.2.2)
def ck_OkE (O : gm_Or) (X : Int → Int) (LX : Nat) (E : List (Nat × List ck_Sum)) : Prop := ∀ mj l, E.lookup mj = some l → ∀ S ∈ l, ck_Ok O X LX mj S
def ck_OkX (σ : Nat → Int) (X : Int → Int) (XF : List (Int × Int × ck_I)) : Prop := ∀ q ∈ XF, ∀ j, q.1 ≤ j → j ≤ q.2.1 → gm_ir (X j) ∧ ck_gi σ q.2.2 (X j)
/-- a state that the checker knows -/
def ck_St (O : gm_Or) (σ : Nat → Int) (W : List (Nat × Int × Int) × List (Nat × Int)) (n0 : Nat) (K0 : gm_K) (R0 : gm_R) (M0 : gm_M) (AL : ck_AL) (AS : ck_AS) (F : ck_F) (L : gm_L) (st : List gm_V) (n : Nat) (K : gm_K) (R : gm_R) (M : gm_M) : Prop := gm_Fx O n K R M ∧ ck_gl σ AL L ∧ ck_gs σ L M AS st ∧ ck_gf σ F n K R M ∧ ck_fr W n0 K0 R0 M0 n K R M
section CJ
variable {O : gm_Or} {X : Int → Int} {LX : Nat} {XF : List (Int × Int × ck_I)} {E : List (Nat × List ck_Sum)} {mi d n0 : Nat} {W : List (Nat × Int × Int) × List (Nat × Int)} {outs : List ck_Oc} {bc bs pc : Nat} {L : gm_L} {st : List gm_V} {n : Nat} {K : gm_K} {R : gm_R} {M : gm_M} {AL : ck_AL} {AS : ck_AS} {F : ck_F} {σ σ0 : Nat → Int} {K0 : gm_K} {R0 : gm_R} {M0 : gm_M} {Q : gm_Q}
theorem ck_w6 (x : Int) : Int64.ofInt (gm_w6 x) = Int64.ofInt x := by
  apply Int64.toInt_inj.mp
  rw [gm_w6_toInt, gm_w6_toInt]
  unfold gm_w6
  omega
/-- an int may be taken round -/
theorem ck_nv {x : Int} (h : gm_Wp X LX d bc bs mi pc L (gm_vi (gm_w x) :: st) n K R M Q) : gm_Wp X LX d bc bs mi pc L (gm_vi x :: st) n K R M Q := by
  intro p l e Rm s m args below meth c D ti adK adV A α0 n0 mc ms h1 h2 h3 h4 h5 h6 h7 α H locs cells slots ls sv h8 h9 h10 h11 h12 h13
  refine h p l e Rm s m args below meth c D ti adK adV A α0 n0 mc ms h1 h2 h3 h4 h5 h6 h7 α H locs cells slots ls sv h8 h9 h10 h11 h12 ?_
  obtain ⟨w, ws, rfl, h14, h15⟩ := h13
  refine ⟨w, ws, rfl, ?_, h15⟩
  show w = .int (Int32.ofInt (gm_w x))
  rw [gm_w_of]
  exact h14
theorem ck_nvL {j : Nat} {x : Int} (h : gm_Wp X LX d bc bs mi pc (gm_lst L j (gm_vi (gm_w x))) st n K R M Q) : gm_Wp X LX d bc bs mi pc (gm_lst L j (gm_vi x)) st n K R M Q := by
  intro p l e Rm s m args below meth c D ti adK adV A α0 n0 mc ms h1 h2 h3 h4 h5 h6 h7 α H locs cells slots ls sv h8 h9 h10 h11 h12 h13
  refine h p l e Rm s m args below meth c D ti adK adV A α0 n0 mc ms h1 h2 h3 h4 h5 h6 h7 α H locs cells slots ls sv h8 h9 h10 h11 ?_ h13
  obtain ⟨g1, l1, g2, g3⟩ := h12
  have e0 : ∀ y : Int, gm_lst L j (gm_vi y) = (gm_lc L j).set j (some (gm_vi y)) := fun _ => rfl
  rw [e0] at g1
  refine ⟨by rw [e0]; simpa using g1, l1, g2, fun i v hi => ?_⟩
  rw [e0, List.getElem?_set] at hi
  by_cases e : j = i
  · rw [if_pos e] at hi
    split at hi
    · rename_i e2
      cases hi
      obtain ⟨w, k1, k2⟩ := g3 i (gm_vi x) (by rw [e0, List.getElem?_set, if_pos e, if_pos e2])
      refine ⟨w, ?_, k2⟩
      show w = .int (Int32.ofInt (gm_w x))
      rw [gm_w_of]
      exact k1
    · cases hi
  · rw [if_neg e] at hi
    exact g3 i v (by rw [e0, List.getElem?_set, if_neg e]; exact hi)
theorem ck_nv6 {x : Int} (h : gm_Wp X LX d bc bs mi pc L (gm_vl (gm_w6 x) :: st) n K R M Q) : gm_Wp X LX d bc bs mi pc L (gm_vl x :: st) n K R M Q := by
  intro p l e Rm s m args below meth c D ti adK adV A α0 n0 mc ms h1 h2 h3 h4 h5 h6 h7 α H locs cells slots ls sv h8 h9 h10 h11 h12 h13
  refine h p l e Rm s m args below meth c D ti adK adV A α0 n0 mc ms h1 h2 h3 h4 h5 h6 h7 α H locs cells slots ls sv h8 h9 h10 h11 h12 ?_
  obtain ⟨w, ws, rfl, h14, h15⟩ := h13
  refine ⟨w, ws, rfl, ?_, h15⟩
  show w = .long (Int64.ofInt (gm_w6 x))
  rw [ck_w6]
  exact h14
theorem ck_r6_w (x : Int) : ck_r6 (gm_w6 x) := by unfold ck_r6 gm_w6; omega
theorem ck_tp6_s {x : Int} (h : ck_r6 x) : ck_gi σ ck_tp6 x := ⟨h.1, Int.le_of_lt_add_one h.2, ck_gt_none⟩
theorem ck_r6_i {x : Int} (h : gm_ir x) : ck_r6 x := by unfold gm_ir at h; unfold ck_r6; omega
theorem ck_pi {x : Int} {a : ck_I} {s : ck_S} (hx : gm_ir x) (ha : ck_gi σ a x) (hs : ck_gr L M s (gm_vi x)) (h : ck_gs σ L M AS st) : ck_gs σ L M ((.inl a, s) :: AS) (gm_vi x :: st) := ⟨_, _, rfl, ⟨⟨x, rfl, hx, ha⟩, hs⟩, h⟩
theorem ck_pl {x : Int} {a : ck_I} (hx : ck_r6 x) (ha : ck_gi σ a x) (h : ck_gs σ L M AS st) : ck_gs σ L M ((.inr (.inl a), none) :: AS) (gm_vl x :: st) := ⟨_, _, rfl, ⟨⟨x, rfl, hx, ha⟩, trivial⟩, h⟩
theorem ck_pr {k : Nat} (h : ck_gs σ L M AS st) : ck_gs σ L M ((.inr (.inr (.inl k)), none) :: AS) (gm_vr k :: st) := ⟨_, _, rfl, ⟨rfl, trivial⟩, h⟩
theorem ck_po {k : Nat} (h : ck_gs σ L M AS st) : ck_gs σ L M ((.inr (.inr (.inr k)), none) :: AS) (gm_vo k :: st) := ⟨_, _, rfl, ⟨rfl, trivial⟩, h⟩
theorem ck_qi {a : ck_I} {s : ck_S} (h : ck_gs σ L M ((.inl a, s) :: AS) st) : ∃ x st', st = gm_vi x :: st' ∧ gm_ir x ∧ ck_gi σ a x ∧ ck_gr L M s (gm_vi x) ∧ ck_gs σ L M AS st' := by
  obtain ⟨v, vs, rfl, ⟨⟨x, rfl, h1, h2⟩, h3⟩, h4⟩ := h
  exact ⟨x, vs, rfl, h1, h2, h3, h4⟩
theorem ck_ql {a : ck_I} {s : ck_S} (h : ck_gs σ L M ((.inr (.inl a), s) :: AS) st) : ∃ x st', st = gm_vl x :: st' ∧ ck_r6 x ∧ ck_gi σ a x ∧ ck_gs σ L M AS st' := by
  obtain ⟨v, vs, rfl, ⟨⟨x, rfl, h1, h2⟩, h3⟩, h4⟩ := h
  exact ⟨x, vs, rfl, h1, h2, h4⟩
theorem ck_qr {k : Nat} {s : ck_S} (h : ck_gs σ L M ((.inr (.inr (.inl k)), s) :: AS) st) : ∃ st', st = gm_vr k :: st' ∧ ck_gs σ L M AS st' := by
  obtain ⟨v, vs, rfl, ⟨rfl, h3⟩, h4⟩ := h
  exact ⟨vs, rfl, h4⟩
theorem ck_qo {k : Nat} {s : ck_S} (h : ck_gs σ L M ((.inr (.inr (.inr k)), s) :: AS) st) : ∃ st', st = gm_vo k :: st' ∧ ck_gs σ L M AS st' := by
  obtain ⟨v, vs, rfl, ⟨rfl, h3⟩, h4⟩ := h
  exact ⟨vs, rfl, h4⟩
theorem ck_q1 {q : ck_A × ck_S} (h : ck_gs σ L M (q :: AS) st) : ∃ v st', st = v :: st' ∧ gm_sort v = ck_so q.1 ∧ (ck_ga σ q.1 v ∧ ck_gr L M q.2 v) ∧ ck_gs σ L M AS st' := by
  obtain ⟨v, vs, rfl, h3, h4⟩ := h
  exact ⟨v, vs, rfl, ck_so_s h3.1, h3, h4⟩
theorem ck_cvk_i {v : Int} (h : ck_cvk (gm_vi v) = true) : gm_ir v := by
  simp only [ck_cvk, Bool.and_eq_true, decide_eq_true_eq] at h
  exact h
theorem ck_cvk_l {v : Int} (h : ck_cvk (gm_vl v) = true) : ck_r6 v := by
  simp only [ck_cvk, Bool.and_eq_true, decide_eq_true_eq] at h
  exact h
theorem ck_cv_s {v : gm_V} (h : ck_cvk v = true) : ck_ga σ (ck_cv v) v := by
  rcases v with x | x | k | k
  · exact ⟨x, rfl, ck_cvk_i h, ck_one_s x⟩
  · exact ⟨x, rfl, ck_cvk_l h, ck_one_s x⟩
  · rfl
  · rfl
abbrev ck_On (O : gm_Or) (X : Int → Int) (LX : Nat) (σ : Nat → Int) (mi d : Nat) (W : List (Nat × Int × Int) × List (Nat × Int)) (n0 : Nat) (K0 : gm_K) (R0 : gm_R) (M0 : gm_M) (Q : gm_Q) (k : Nat → Nat → Nat → ck_AL → ck_AS → Nat → ck_F → Bool) : Prop := ∀ bc bs pc AL AS n F L st K R M, k bc bs pc AL AS n F = true → ck_St O σ W n0 K0 R0 M0 AL AS F L st n K R M → gm_Wp X LX d bc bs mi pc L st n K R M Q
variable {k : Nat → Nat → Nat → ck_AL → ck_AS → Nat → ck_F → Bool}
/-- a branch is taken or not -/
theorem ck_br_s {c : ClassFile.Cond} {a b : ck_I} {s t : ck_S} {x y : Int} {P : Prop} {g : ck_AL → ck_F → Bool} (hS : ck_St O σ W n0 K0 R0 M0 AL AS F L st n K R M) (hx : gm_ir x) (ha : ck_gi σ a x) (hs : ck_gr L M s (gm_vi x)) (hy : gm_ir y) (hb : ck_gi σ b y) (ht : ck_gr L M t (gm_vi y)) (hc : gm_cm c x y) (h : ck_br c a s b t AL F g = true) (hg : ∀ AL F, g AL F = true → ck_St O σ W n0 K0 R0 M0 AL AS F L st n K R M → P) : P := by
  have h1 := ck_rf_s ha hb hc
  have h2 := ck_rf_s hb ha (ck_sw_s hc)
  unfold ck_br at h
  rw [if_neg (by rw [ck_no_s h1, ck_no_s h2]; decide)] at h
  obtain ⟨f1, f2, f3, f4, f5⟩ := hS
  exact hg _ _ h ⟨f1, ck_qL_s ⟨h2.1, h2.2.1⟩ hb (ck_qL_s ⟨h1.1, h1.2.1⟩ ha (ck_rL_s (ck_rL_s f2 hs hx h1) ht hy h2)), f3, ck_qF_s ⟨h2.1, h2.2.1⟩ hb (ck_qF_s ⟨h1.1, h1.2.1⟩ ha (ck_rF_s (ck_rF_s f4 hs hx h1) ht hy h2)), f5⟩
theorem ck_tI_s {a : ck_I} {x : Int} (hs : ∀ s, s < 100 → σ s = σ0 s) (h : ck_tI a = true) (ha : ck_gi σ a x) : ck_gi σ0 a x := by
  refine ⟨ha.1, ha.2.1, fun q hq => ?_⟩
  have h1 := ha.2.2 q hq
  have h := List.all_eq_true.mp (ck_tI_def.symm.trans h) q hq
  simp only [Bool.or_eq_true, Bool.and_eq_true, decide_eq_true_eq] at h
  refine ⟨fun e => ?_, fun e => ?_⟩
  · rw [← hs q.1 (by omega)]
    exact h1.1 e
  · rw [← hs (q.1 - 1000000) (by omega)]
    exact h1.2 e
theorem ck_tA_s {a : ck_A} {v : gm_V} (hs : ∀ s, s < 100 → σ s = σ0 s) (h : ck_tA a = true) (ha : ck_ga σ a v) : ck_ga σ0 a v := by
  rcases a with a | a | k | k
  · obtain ⟨x, rfl, h1, h2⟩ := ha
    exact ⟨x, rfl, h1, ck_tI_s hs h h2⟩
  · obtain ⟨x, rfl, h1, h2⟩ := ha
    exact ⟨x, rfl, h1, ck_tI_s hs h h2⟩
  · exact ha
  · exact ha
theorem ck_tF_s (hs : ∀ s, s < 100 → σ s = σ0 s) (h : ck_tF F = true) (ha : ck_gf σ F n K R M) : ck_gf σ0 F n K R M := by
  refine ⟨ha.1, ha.2.1, fun q hq => ⟨(ha.2.2 q hq).1, fun j h1 h2 => ?_⟩⟩
  have h3 := (ha.2.2 q hq).2 j h1 h2
  exact ⟨h3.1, ck_tI_s hs (List.all_eq_true.mp (ck_tF_def.symm.trans h) q hq) h3.2⟩
theorem ck_end_s {how : Nat ⊕ Option ck_A} {o : gm_O} (hs : ∀ s, s < 100 → σ s = σ0 s) (hF : gm_Fx O n K R M) (hf : ck_gf σ F n K R M) (hfr : ck_fr W n0 K0 R0 M0 n K R M) (ho : ck_ho σ how o) (h : ck_end O outs how n F = true) : ck_Q O σ0 W n0 K0 R0 M0 outs o n K R M := by
  rw [ck_end_def] at h
  obtain ⟨oc, h1, h2⟩ := List.any_eq_true.mp h
  simp only [Bool.and_eq_true, beq_iff_eq] at h2
  obtain ⟨h3, h4, h5, h6⟩ := h2
  refine ⟨hF, hfr, oc, h1, ?_, h4, ck_tF_s hs h6 (ck_leF_s hF hf h5)⟩
  obtain ⟨o1, o2⟩ := oc
  dsimp only at h3 ⊢
  rcases how with x | _ | a <;> rcases o1 with y | _ | b
  · have : x = y := by simpa [ck_leO] using h3
    subst this
    rcases o with u | z
    · cases u <;> exact ho
    · exact ho
  · cases h3
  · cases h3
  · cases h3
  · rcases o with (_ | v) | z
    · exact trivial
    · exact ho.elim
    · exact ho.elim
  · cases h3
  · cases h3
  · cases h3
  · simp only [ck_leO, Bool.and_eq_true] at h3
    rcases o with u | z
    · cases u with
      | none => exact ho.elim
      | some v => exact ck_tA_s hs h3.2 (ck_leA_s h3.1 ho)
    · exact ho.elim
theorem ck_gas_s : ∀ {as bs : List ck_A} {vs : List gm_V}, ck_leAs as bs = true → ck_gas σ as vs → ck_gas σ bs vs := by
  intro as
  induction as with
  | nil =>
    intro bs vs h hv
    cases bs with
    | nil => exact hv
    | cons b bs => cases h
  | cons a as ih =>
    intro bs vs h hv
    cases bs with
    | nil => cases h
    | cons b bs =>
      obtain ⟨v, ws, rfl, h1, h2⟩ := hv
      have h3 : (ck_leA a b && ck_leAs as bs) = true := h
      rw [Bool.and_eq_true] at h3
      exact ⟨v, ws, rfl, ck_leA_s h3.1 h1, ih h3.2 h2⟩
/-- the arguments of a call, out of the stack -/
theorem ck_gas_app : ∀ {as bs : List ck_A} {vs ws : List gm_V}, ck_gas σ as vs → ck_gas σ bs ws → ck_gas σ (as ++ bs) (vs ++ ws) := by
  intro as
  induction as with
  | nil => intro bs vs ws h1 h2; cases h1; exact h2
  | cons a as ih =>
    intro bs vs ws h1 h2
    obtain ⟨v, us, rfl, h3, h4⟩ := h1
    exact ⟨v, us ++ ws, rfl, h3, ih h4 h2⟩
theorem ck_take : ∀ {m : Nat} {AS : ck_AS} {st : List gm_V}, ck_gs σ L M AS st → (st.take m).length = (AS.take m).length ∧ ck_gas σ ((AS.take m).reverse.map Prod.fst) (st.take m).reverse ∧ (ck_n1 (AS.take m) = true → ∀ v ∈ (st.take m).reverse, ¬ gm_sort v = 1) ∧ ck_gs σ L M (AS.drop m) (st.drop m) := by
  intro m
  induction m with
  | zero => intro AS st h; exact ⟨rfl, rfl, fun _ v hv => (nomatch hv), h⟩
  | succ m ih =>
    intro AS st h
    cases AS with
    | nil => cases h; exact ⟨rfl, rfl, fun _ v hv => (nomatch hv), rfl⟩
    | cons a AS =>
      obtain ⟨v, vs, rfl, h1, h2⟩ := h
      obtain ⟨i1, i2, i3, i4⟩ := ih h2
      refine ⟨by simp only [List.take_succ_cons, List.length_cons]; rw [i1], ?_, ?_, i4⟩
      · simp only [List.take_succ_cons, List.reverse_cons, List.map_append, List.map_cons, List.map_nil]
        exact ck_gas_app i2 ⟨v, [], rfl, h1.1, rfl⟩
      · intro h3 u hu
        simp only [List.take_succ_cons, List.reverse_cons, List.mem_append, List.mem_singleton] at hu
        simp only [ck_n1, List.take_succ_cons, List.all_cons, Bool.and_eq_true, Bool.not_eq_true', beq_eq_false_iff_ne, ne_eq] at h3
        rcases hu with hu | rfl
        · exact i3 h3.2 u hu
        · rw [ck_so_s h1.1]; exact h3.1
theorem ck_sum_s : ∀ {AS : ck_AS} {st : List gm_V}, ck_gs σ L M AS st → (st.map gm_cat).sum = (AS.map fun q => if ck_so q.1 = 1 then 2 else 1).sum := by
  intro AS
  induction AS with
  | nil => intro st h; cases h; rfl
  | cons a AS ih =>
    intro st h
    obtain ⟨v, vs, rfl, h1, h2⟩ := h
    simp only [List.map_cons, List.sum_cons]
    rw [ih h2]
    unfold gm_cat
    rw [ck_so_s h1.1]
theorem ck_sum8_s (h : ck_gs σ L M AS st) (h8 : ck_sum8 AS = true) : (st.map gm_cat).sum ≤ 8 := by
  rw [ck_sum_s h]
  exact of_decide_eq_true h8
/-- the names as the callee has them -/
def ck_sn (O : gm_Or) (σ : Nat → Int) (M : gm_M) (s : Nat) : Int := match O.2.2.nm.find? fun p => p.1 == s with
  | some p => M p.2.1 p.2.2
  | none => σ s
/-- a name stands for one cell -/
def ck_nmu (O : gm_Or) : Prop := ∀ q ∈ O.2.2.nm, O.2.2.nm.find? (fun p => p.1 == q.1) = some q
theorem ck_sn_s (hu : ck_nmu O) : ∀ q ∈ O.2.2.nm, ck_sn O σ M q.1 = M q.2.1 q.2.2 := by
  intro q hq
  unfold ck_sn
  rw [hu q hq]
theorem ck_nt_s {σ' : Nat → Int} {a : ck_I} {x : Int} (h : ck_nt a = true) (ha : ck_gi σ a x) : ck_gi σ' a x := ⟨ha.1, ha.2.1, fun q hq => by rw [List.isEmpty_iff.mp h] at hq; cases hq⟩
theorem ck_ntA_s {σ' : Nat → Int} {a : ck_A} {v : gm_V} (h : ck_ntA a = true) (ha : ck_ga σ a v) : ck_ga σ' a v := by
  rcases a with a | a | k | k
  · obtain ⟨x, h1, h2, h3⟩ := ha; exact ⟨x, h1, h2, ck_nt_s h h3⟩
  · obtain ⟨x, h1, h2, h3⟩ := ha; exact ⟨x, h1, h2, ck_nt_s h h3⟩
  · exact ha
  · exact ha
theorem ck_ntAs_s {σ' : Nat → Int} : ∀ {as : List ck_A} {vs : List gm_V}, as.all ck_ntA = true → ck_gas σ as vs → ck_gas σ' as vs := by
  intro as
  induction as with
  | nil => intro vs _ h; exact h
  | cons a as ih =>
    intro vs h hv
    obtain ⟨v, ws, rfl, h1, h2⟩ := hv
    rw [List.all_cons, Bool.and_eq_true] at h
    exact ⟨v, ws, rfl, ck_ntA_s h.1 h1, ih h.2 h2⟩
theorem ck_own_s {G : ck_F} (h : ck_gf σ (ck_cl G) n K R M) (ho : G.2.2.all (ck_own O) = true) : ck_gf (ck_sn O σ M) G n K R M := by
  refine ⟨h.1, h.2.1, fun q hq => ?_⟩
  have h1 := h.2.2 (q.1, q.2.1, q.2.2.1, (q.2.2.2.1, q.2.2.2.2.1, [])) (List.mem_map.mpr ⟨q, hq, rfl⟩)
  refine ⟨h1.1, fun j h2 h3 => ?_⟩
  have h4 := h1.2 j h2 h3
  refine ⟨h4.1, h4.2.1, h4.2.2.1, fun t ht => ?_⟩
  have h5 := List.all_eq_true.mp (List.all_eq_true.mp ho q hq) t ht
  simp only [Bool.and_eq_true, decide_eq_true_eq] at h5
  obtain ⟨h6, h7, h8, h9⟩ := h5
  refine ⟨fun _ => ?_, fun e => by omega⟩
  unfold ck_sn
  cases hp : O.2.2.nm.find? fun p => p.1 == t.1 with
  | none => rw [hp] at h9; cases h9
  | some p =>
    rw [hp] at h9
    simp only [Bool.and_eq_true, beq_iff_eq, decide_eq_true_eq] at h9
    dsimp only
    have : j = q.2.1 := by omega
    rw [h7, h9.1, h9.2, this]
    omega
theorem ck_r1_s {q t : Nat × Int} {x : Int} (hF : gm_Fx O n K R M) (hf : ck_gf σ F n K R M) (h : ck_g1 (ck_sn O σ M) q x) (ht : t ∈ ck_r1 O F q) : ck_g1 σ t x := by
  unfold ck_r1 at ht
  cases hp : O.2.2.nm.find? fun p => p.1 == (if q.1 < 1000000 then q.1 else q.1 - 1000000) with
  | none => rw [hp] at ht; cases ht
  | some p =>
    rw [hp] at ht
    dsimp only at ht
    cases hb : ck_rd O F p.2.1 p.2.2 p.2.2 with
    | none => rw [hb] at ht; cases ht
    | some b =>
      rw [hb] at ht
      obtain ⟨u, hu, rfl⟩ := List.mem_map.mp ht
      have h1 := ((ck_rd_s hF hf hb).2 p.2.2 (Int.le_refl _) (Int.le_refl _)).2.2.2 u hu
      have h2 : ck_sn O σ M (if q.1 < 1000000 then q.1 else q.1 - 1000000) = M p.2.1 p.2.2 := by
        unfold ck_sn
        rw [hp]
      by_cases e : q.1 < 1000000
      · rw [if_pos e] at h2
        have h3 := h.1 e
        rw [h2] at h3
        simp only [if_pos e]
        exact ⟨fun e2 => by have := h1.1 e2; dsimp only at e2 ⊢; omega, fun e2 => by have := h1.2 e2; dsimp only at e2 ⊢; omega⟩
      · rw [if_neg e] at h2
        have h3 := h.2 (by omega)
        rw [h2] at h3
        simp only [if_neg e]
        by_cases e2 : u.1 < 1000000
        · simp only [if_pos e2]
          have := h1.1 e2
          refine ⟨fun e3 => by dsimp only at e3; omega, fun _ => ?_⟩
          dsimp only
          rw [show u.1 + 1000000 - 1000000 = u.1 by omega]
          omega
        · simp only [if_neg e2]
          have := h1.2 (by omega)
          exact ⟨fun e3 => absurd e3 e2, fun _ => by dsimp only; omega⟩
theorem ck_rlo_s {x : Int} (hF : gm_Fx O n K R M) (hf : ck_gf σ F n K R M) : ∀ (l : List (Nat × Int)) (y : Int), (∀ q ∈ l, ck_g1 (ck_sn O σ M) q x) → y ≤ x → ck_rlo O F l y ≤ x := by
  intro l
  induction l with
  | nil => intro y _ h; exact h
  | cons q l ih =>
    intro y h hy
    refine ih _ (fun p hp => h p (List.mem_cons_of_mem _ hp)) ?_
    have h0 := h q List.mem_cons_self
    cases hp : O.2.2.nm.find? fun p => p.1 == (if q.1 < 1000000 then q.1 else q.1 - 1000000) with
    | none => exact hy
    | some p =>
      dsimp only
      cases hb : ck_rd O F p.2.1 p.2.2 p.2.2 with
      | none => exact hy
      | some b =>
        dsimp only
        have h1 := ((ck_rd_s hF hf hb).2 p.2.2 (Int.le_refl _) (Int.le_refl _)).2.1
        have h2 : ck_sn O σ M (if q.1 < 1000000 then q.1 else q.1 - 1000000) = M p.2.1 p.2.2 := by
          unfold ck_sn
          rw [hp]
        by_cases e : q.1 < 1000000
        · rw [if_pos e] at h2
          have h3 := h0.1 e
          split <;> omega
        · rw [if_neg e] at h2
          have h3 := h0.2 (by omega)
          split <;> omega
theorem ck_rhi_s {x : Int} (hF : gm_Fx O n K R M) (hf : ck_gf σ F n K R M) : ∀ (l : List (Nat × Int)) (y : Int), (∀ q ∈ l, ck_g1 (ck_sn O σ M) q x) → x ≤ y → x ≤ ck_rhi O F l y := by
  intro l
  induction l with
  | nil => intro y _ h; exact h
  | cons q l ih =>
    intro y h hy
    refine ih _ (fun p hp => h p (List.mem_cons_of_mem _ hp)) ?_
    have h0 := h q List.mem_cons_self
    by_cases e : q.1 < 1000000
    · rw [if_pos e]
      cases hp : O.2.2.nm.find? fun p => p.1 == q.1 with
      | none => exact hy
      | some p =>
        dsimp only
        cases hb : ck_rd O F p.2.1 p.2.2 p.2.2 with
        | none => exact hy
        | some b =>
          dsimp only
          have h1 := ((ck_rd_s hF hf hb).2 p.2.2 (Int.le_refl _) (Int.le_refl _)).2.2.1
          have h2 : ck_sn O σ M q.1 = M p.2.1 p.2.2 := by
            unfold ck_sn
            rw [hp]
          have h3 := h0.1 e
          split <;> omega
    · rw [if_neg e]; exact hy
theorem ck_rI_s {a : ck_I} {x : Int} (hF : gm_Fx O n K R M) (hf : ck_gf σ F n K R M) (h : ck_gi (ck_sn O σ M) a x) : ck_gi σ (ck_rI O F a) x := by
  unfold ck_rI
  split
  · rename_i e
    exact ⟨h.1, h.2.1, fun q hq => by rw [e] at hq; cases hq⟩
  · refine ⟨ck_rlo_s hF hf _ _ h.2.2 h.1, ck_rhi_s hF hf _ _ h.2.2 h.2.1, fun t ht => ?_⟩
    obtain ⟨q, hq, ht⟩ := List.mem_flatMap.mp ht
    exact ck_r1_s hF hf (h.2.2 q hq) ht
theorem ck_rA_s {a : ck_A} {v : gm_V} (hF : gm_Fx O n K R M) (hf : ck_gf σ F n K R M) (h : ck_ga (ck_sn O σ M) a v) : ck_ga σ (ck_rA O F a) v := by
  rcases a with a | a | k | k
  · obtain ⟨x, h1, h2, h3⟩ := h; exact ⟨x, h1, h2, ck_rI_s hF hf h3⟩
  · obtain ⟨x, h1, h2, h3⟩ := h; exact ⟨x, h1, h2, ck_rI_s hF hf h3⟩
  · exact h
  · exact h
theorem ck_rG_s {G : ck_F} {n' : Nat} {K' : gm_K} {R' : gm_R} {M' : gm_M} (hF : gm_Fx O n K R M) (hf : ck_gf σ F n K R M) (h : ck_gf (ck_sn O σ M) G n' K' R' M') : ck_gf σ (ck_rG O F G) n' K' R' M' := by
  refine ⟨h.1, h.2.1, fun q hq => ?_⟩
  obtain ⟨p, hp, rfl⟩ := List.mem_map.mp hq
  have h1 := h.2.2 p hp
  exact ⟨h1.1, fun j h2 h3 => ⟨(h1.2 j h2 h3).1, ck_rI_s hF hf (h1.2 j h2 h3).2⟩⟩
/-- behind a call that is known -/
theorem ck_call_s {mj pc' : Nat} {as : List ck_A} {vs : List gm_V} {AS' : ck_AS} {st' : List gm_V} (hs : ∀ s, s < 100 → σ s = σ0 s) (hE : ck_nmu O ∧ ck_OkE O X LX E) (hS : ck_St O σ W n0 K0 R0 M0 AL AS F L st n K R M) (has : ck_gas σ as vs) (hst : ck_gs σ L M AS' st') (hk : ck_On O X LX σ mi d W n0 K0 R0 M0 (ck_Q O σ0 W n0 K0 R0 M0 outs) k)
    (hcall : ∀ d' bc' bs', d' + 1 ≤ d → bc' ≤ bc → bs' ≤ bs → gm_Wp X LX d' bc' bs' mj 0 (gm_ent mj vs) [] n K R M (gm_contH X LX d (bc - bc') (bs - bs') mi pc pc' L st' (ck_Q O σ0 W n0 K0 R0 M0 outs)) → gm_Wp X LX d bc bs mi pc L st n K R M (ck_Q O σ0 W n0 K0 R0 M0 outs))
    (h : ck_call O E d n0 W bc bs n mj F as (fun bc bs how n F => match how with
          | .inl x => ck_thr O outs mi pc x n F (fun h => k bc bs h AL [(.inr (.inr (.inr 4000)), none)] n F)
          | .inr u => k bc bs pc' AL (ck_psh u AS') n F) = true) : gm_Wp X LX d bc bs mi pc L st n K R M (ck_Q O σ0 W n0 K0 R0 M0 outs) := by
  unfold ck_call at h
  simp only [fl_lk_eq, fl_all_eq] at h
  cases he : E.lookup mj with
  | none => rw [he] at h; cases h
  | some l =>
    rw [he] at h
    dsimp only at h
    cases hp : ck_pick O n F as l with
    | none => rw [hp] at h; cases h
    | some S =>
      rw [hp] at h
      dsimp only at h
      simp only [Bool.and_eq_true, decide_eq_true_eq] at h
      obtain ⟨⟨h1, h2, h3⟩, ⟨h4, h5⟩, h6⟩ := h
      rw [ck_pick_def] at hp
      have hm := List.mem_of_find?_eq_some hp
      have h7 := List.find?_some hp
      simp only [Bool.and_eq_true, beq_iff_eq] at h7
      obtain ⟨h8, h9, hnt, h10, hown⟩ := h7
      obtain ⟨f1, f2, f3, f4, f5⟩ := hS
      refine hcall S.1.1 S.1.2.1 S.1.2.2 h1 h2 h3 ?_
      refine gm_Wp_mono (fun o n' K' R' M' hq => ?_) (hE.2 mj l he S hm S.1.1 (ck_sn O σ M) vs n K R M (Nat.le_refl _) h8.symm (ck_ntAs_s hnt (ck_gas_s h9 has)) (ck_sn_s hE.1) f1 (ck_own_s (ck_leF_s f1 f4 h10) hown))
      obtain ⟨g1, g2, oc, g3, g4, g5, g6⟩ := hq
      have h11 := List.all_eq_true.mp h6 oc g3
      have g7 := ck_fr_tr f5 g2 h4 h5
      have g8 := ck_mix_s f4 (ck_rG_s f1 f4 g6) g2
      obtain ⟨o1, o2, o3⟩ := oc
      dsimp only at g4 g5 g6 g8 h11
      subst g5
      rcases o1 with x | _ | a <;> rcases o with (_ | v) | z
      · exact g4.elim
      · exact g4.elim
      · cases g4
        change ck_thr _ _ _ _ _ _ _ _ = true at h11
        unfold ck_thr at h11
        show (match gm_hit (gm_ow mi) pc x false (gm_hh mi) with
          | some (some h) => gm_Wp X LX d _ _ mi h L [gm_vo 4000] _ K' R' M' (ck_Q O σ0 W n0 K0 R0 M0 outs)
          | some none => ck_Q O σ0 W n0 K0 R0 M0 outs (.inr x) _ K' R' M'
          | none => False)
        cases hhit : gm_hit (gm_ow mi) pc x false (gm_hh mi) with
        | none => rw [hhit] at h11; cases h11
        | some o9 =>
          rw [hhit] at h11
          cases o9 with
          | none => exact ck_end_s (how := .inl x) hs g1 g8 g7 rfl h11
          | some h9 => exact hk _ _ _ _ _ _ _ _ _ _ _ _ h11 ⟨g1, f2, ⟨gm_vo 4000, [], rfl, ⟨rfl, trivial⟩, rfl⟩, g8, g7⟩
      · exact hk _ _ _ _ _ _ _ _ _ _ _ _ h11 ⟨g1, f2, ck_sh_s hst, g8, g7⟩
      · exact g4.elim
      · exact g4.elim
      · exact g4.elim
      · exact hk _ _ _ _ _ _ _ _ _ _ _ _ h11 ⟨g1, f2, ⟨v, st', rfl, ⟨ck_rA_s f1 f4 g4, trivial⟩, ck_sh_s hst⟩, g8, g7⟩
      · exact g4.elim
end CJ
