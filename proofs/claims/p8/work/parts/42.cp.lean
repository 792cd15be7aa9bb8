/-! COPIES from one row to another, number by number: the loop ends with a closed form. -/
noncomputable def gm_cpy (M : gm_M) (A B : Nat) (a b i : Int) : gm_M := fun c j => if c = A ∧ a ≤ j ∧ j < a + i then M B (j - a + b) else M c j
theorem gm_cpy_0 {M : gm_M} {A B : Nat} {a b : Int} : gm_cpy M A B a b 0 = M := by
  funext c j
  unfold gm_cpy
  rw [if_neg (by omega)]
theorem gm_cpy_ne {M : gm_M} {A B c : Nat} {a b i j : Int} (h : ¬ c = A) : gm_cpy M A B a b i c j = M c j := by
  unfold gm_cpy
  rw [if_neg (fun e => h e.1)]
theorem gm_cpy_out {M : gm_M} {A B c : Nat} {a b i j : Int} (h : ¬ (a ≤ j ∧ j < a + i)) : gm_cpy M A B a b i c j = M c j := by
  unfold gm_cpy
  rw [if_neg (fun e => h e.2)]
theorem gm_cpy_in {M : gm_M} {A B : Nat} {a b i j : Int} (h : a ≤ j ∧ j < a + i) : gm_cpy M A B a b i A j = M B (j - a + b) := by
  unfold gm_cpy
  rw [if_pos ⟨rfl, h⟩]
theorem gm_cpy_s {M : gm_M} {A B : Nat} {a b i : Int} (h : A = B → a ≤ b) (hi : 0 ≤ i) : gm_uM (gm_cpy M A B a b i) A (a + i) (gm_cpy M A B a b i B (b + i)) = gm_cpy M A B a b (i + 1) := by
  have h1 : gm_cpy M A B a b i B (b + i) = M B (b + i) := by
    unfold gm_cpy
    rw [if_neg]
    rintro ⟨e, h2, h3⟩
    have := h e.symm
    omega
  rw [h1]
  funext c j
  unfold gm_uM
  by_cases e : c = A ∧ j = a + i
  · rw [if_pos e]
    obtain ⟨rfl, rfl⟩ := e
    rw [gm_cpy_in ⟨by omega, by omega⟩]
    congr 1
    omega
  · rw [if_neg e]
    unfold gm_cpy
    by_cases e2 : c = A ∧ a ≤ j ∧ j < a + i
    · rw [if_pos e2, if_pos ⟨e2.1, e2.2.1, by omega⟩]
    · rw [if_neg e2, if_neg]
      rintro ⟨e3, e4, e5⟩
      refine e2 ⟨e3, e4, ?_⟩
      have : ¬ j = a + i := fun e6 => e ⟨e3, e6⟩
      omega
section CP
variable {X : Int → Int} {LX d bc bs mi pc : Nat} {L : gm_L} {st : List gm_V} {n : Nat} {K : gm_K} {R : gm_R} {M : gm_M} {Q : gm_Q}
theorem cp_lst {L : gm_L} {v : Nat} {x y : Int} (hv : 1 ≤ v) (lw : ∃ w, L[v - 1]? = some (some w) ∧ ¬ gm_sort w = 1) : gm_lst (L.set v (some (gm_vi x))) v (gm_vi y) = L.set v (some (gm_vi y)) := by
  obtain ⟨w, hw, hs⟩ := lw
  obtain ⟨v, rfl⟩ : ∃ u, v = u + 1 := ⟨v - 1, by omega⟩
  have hw : L[v]? = some (some w) := hw
  have h1 : (L.set (v + 1) (some (gm_vi x)))[v]? = some (some w) := by
    rw [List.getElem?_set, if_neg (by omega), hw]
  have h2 : gm_lc (L.set (v + 1) (some (gm_vi x))) (v + 1) = L.set (v + 1) (some (gm_vi x)) := by
    show (match (L.set (v + 1) (some (gm_vi x)))[v]? with
      | some (some (.inr (.inl _))) => (L.set (v + 1) (some (gm_vi x))).set v none
      | _ => L.set (v + 1) (some (gm_vi x))) = _
    rw [h1]
    rcases w with z | z | z
    · rfl
    · exact absurd rfl hs
    · rfl
  show (gm_lc (L.set (v + 1) (some (gm_vi x))) (v + 1)).set (v + 1) (some (gm_vi y)) = _
  rw [h2, List.set_set]
theorem cp_set0 {L : gm_L} {v : Nat} {x : Int} (lv : L[v]? = some (some (gm_vi x))) : L.set v (some (gm_vi x)) = L := by
  apply List.ext_getElem?
  intro i
  rw [List.getElem?_set]
  split
  · rename_i e
    subst e
    rw [lv]
    split
    · rfl
    · rename_i h
      rw [List.getElem?_eq_none (by omega)] at lv
      cases lv
  · rfl
theorem cp_getv {L : gm_L} {v : Nat} {x y : Int} (lv : L[v]? = some (some (gm_vi x))) : (L.set v (some (gm_vi y)))[v]? = some (some (gm_vi y)) := by
  rw [List.getElem?_set, if_pos rfl, if_pos]
  exact (List.getElem?_eq_some_iff.mp lv).1
theorem cp_get0 {L : gm_L} {v : Nat} {w : Option gm_V} {y : Int} (hv : 1 ≤ v) (l0 : L[0]? = some w) : (L.set v (some (gm_vi y)))[0]? = some w := by
  rw [List.getElem?_set, if_neg (by omega), l0]
theorem cp_ld {iv : Instr} {v : Nat} {x y : Int} {m : gm_M} (hiv : gm_load iv = some (0, v) ∧ gm_len iv = 1) (lv : L[v]? = some (some (gm_vi x))) (h : gm_at mi pc = some iv) : gm_Sp X LX d mi pc (L.set v (some (gm_vi y))) st n K R m (pc + 1) (L.set v (some (gm_vi y))) (gm_vi y :: st) n K R m 0 0 := by
  have := gm_p_load (X := X) (LX := LX) (d := d) (st := st) (n := n) (K := K) (R := R) (M := m) h hiv.1 (cp_getv lv (y := y)) rfl
  rw [hiv.2] at this
  exact this
/-- from pc to pc' the number a + i is laid on the stack -/
noncomputable def cp_sg (X : Int → Int) (LX d bc bs mi n : Nat) (K : gm_K) (R : gm_R) (M : gm_M) (mo v : Nat) (L : gm_L) (pc pc' : Nat) (a : Int) : Prop := ∀ (i : Int) (m : gm_M) (st : List gm_V) (Q : gm_Q), (∀ j, m mo j = M mo j) → gm_Wp X LX d bc bs mi pc' (L.set v (some (gm_vi i))) (gm_vi (a + i) :: st) n K R m Q → gm_Wp X LX d bc bs mi pc (L.set v (some (gm_vi i))) st n K R m Q
theorem cp_sg_i {iv : Instr} {mo v : Nat} {x : Int} (lv : L[v]? = some (some (gm_vi x))) (hiv : gm_load iv = some (0, v) ∧ gm_len iv = 1) (h : gm_at mi pc = some iv) : cp_sg X LX d bc bs mi n K R M mo v L pc (pc + 1) 0 := by
  intro i m st Q _ k
  rw [Int.zero_add] at k
  exact gm_sz (cp_ld hiv lv h) k
theorem cp_sg_ci {iv : Instr} {mo v : Nat} {x c : Int} (lv : L[v]? = some (some (gm_vi x))) (hiv : gm_load iv = some (0, v) ∧ gm_len iv = 1) (hc : gm_ws c = c) (h1 : gm_at mi pc = some (.sipush c)) (h2 : gm_at mi (pc + 3) = some iv) (h3 : gm_at mi (pc + 4) = some .iadd) : cp_sg X LX d bc bs mi n K R M mo v L pc (pc + 5) c := by
  intro i m st Q _ k
  refine gm_sz (gm_p_const (i := .sipush c) (v := gm_vi (gm_ws c)) h1 rfl) ?_
  rw [hc]
  refine gm_sz (cp_ld hiv lv h2) ?_
  exact gm_sz (gm_p_bin (pc := pc + 4) (i := .iadd) (f := fun x y => x + y) h3 rfl) k
theorem cp_sg_ic {iv : Instr} {mo v : Nat} {x c : Int} (lv : L[v]? = some (some (gm_vi x))) (hiv : gm_load iv = some (0, v) ∧ gm_len iv = 1) (hc : gm_ws c = c) (h1 : gm_at mi pc = some iv) (h2 : gm_at mi (pc + 1) = some (.sipush c)) (h3 : gm_at mi (pc + 4) = some .iadd) : cp_sg X LX d bc bs mi n K R M mo v L pc (pc + 5) c := by
  intro i m st Q _ k
  refine gm_sz (cp_ld hiv lv h1) ?_
  refine gm_sz (gm_p_const (pc := pc + 1) (i := .sipush c) (v := gm_vi (gm_ws c)) h2 rfl) ?_
  rw [hc]
  refine gm_sz (gm_p_bin (pc := pc + 4) (i := .iadd) (f := fun x y => x + y) h3 rfl) ?_
  rw [Int.add_comm c i] at k
  exact k
theorem cp_sg_cr {iv : Instr} {mo v ix j : Nat} {x c : Int} (hv : 1 ≤ v) (l0 : L[0]? = some (some (gm_vr mo))) (lv : L[v]? = some (some (gm_vi x))) (hiv : gm_load iv = some (0, v) ∧ gm_len iv = 1) (hc : gm_ws c = c) (hmo : (1 ≤ mo ∧ mo ≤ n) ∧ (K mo).1 = 11 + 4) (hf : gm_fld (gm_ow mi) ix 11 = some j) (hr : gm_isr 11 j = false)
    (h1 : gm_at mi pc = some (.sipush c)) (h2 : gm_at mi (pc + 3) = some (.aload_n 0)) (h3 : gm_at mi (pc + 4) = some (.getfield ix)) (h4 : gm_at mi (pc + 7) = some .imul) (h5 : gm_at mi (pc + 8) = some iv) (h6 : gm_at mi (pc + 9) = some .iadd) : cp_sg X LX d bc bs mi n K R M mo v L pc (pc + 10) (c * M mo j) := by
  intro i m st Q hm k
  refine gm_sz (gm_p_const (i := .sipush c) (v := gm_vi (gm_ws c)) h1 rfl) ?_
  rw [hc]
  refine gm_sz (gm_p_load (pc := pc + 3) (i := .aload_n 0) (sr := 2) (j := 0) h2 rfl (cp_get0 hv l0) rfl) ?_
  refine gm_sz (gm_p_get (pc := pc + 4) h3 hmo.1 hmo.2 hf) ?_
  rw [if_neg (by rw [hr]; exact Bool.false_ne_true), hm]
  refine gm_sz (gm_p_bin (pc := pc + 7) (i := .imul) (f := fun x y => x * y) h4 rfl) ?_
  refine gm_sz (cp_ld hiv lv h5) ?_
  exact gm_sz (gm_p_bin (pc := pc + 9) (i := .iadd) (f := fun x y => x + y) h6 rfl) k
theorem cp_sg_cr1 {iv : Instr} {mo v ix j : Nat} {x c : Int} (hv : 1 ≤ v) (l0 : L[0]? = some (some (gm_vr mo))) (lv : L[v]? = some (some (gm_vi x))) (hiv : gm_load iv = some (0, v) ∧ gm_len iv = 1) (hc : gm_ws c = c) (hmo : (1 ≤ mo ∧ mo ≤ n) ∧ (K mo).1 = 11 + 4) (hf : gm_fld (gm_ow mi) ix 11 = some j) (hr : gm_isr 11 j = false)
    (h1 : gm_at mi pc = some (.sipush c)) (h2 : gm_at mi (pc + 3) = some (.aload_n 0)) (h3 : gm_at mi (pc + 4) = some (.getfield ix)) (h7 : gm_at mi (pc + 7) = some (.iconst 1)) (h8 : gm_at mi (pc + 8) = some .isub) (h4 : gm_at mi (pc + 9) = some .imul) (h5 : gm_at mi (pc + 10) = some iv) (h6 : gm_at mi (pc + 11) = some .iadd) : cp_sg X LX d bc bs mi n K R M mo v L pc (pc + 12) (c * (M mo j - 1)) := by
  intro i m st Q hm k
  refine gm_sz (gm_p_const (i := .sipush c) (v := gm_vi (gm_ws c)) h1 rfl) ?_
  rw [hc]
  refine gm_sz (gm_p_load (pc := pc + 3) (i := .aload_n 0) (sr := 2) (j := 0) h2 rfl (cp_get0 hv l0) rfl) ?_
  refine gm_sz (gm_p_get (pc := pc + 4) h3 hmo.1 hmo.2 hf) ?_
  rw [if_neg (by rw [hr]; exact Bool.false_ne_true), hm]
  refine gm_sz (gm_p_const (pc := pc + 7) (i := .iconst 1) (v := gm_vi 1) h7 rfl) ?_
  refine gm_sz (gm_p_bin (pc := pc + 8) (i := .isub) (f := fun x y => x - y) h8 rfl) ?_
  refine gm_sz (gm_p_bin (pc := pc + 9) (i := .imul) (f := fun x y => x * y) h4 rfl) ?_
  refine gm_sz (cp_ld hiv lv h5) ?_
  exact gm_sz (gm_p_bin (pc := pc + 11) (i := .iadd) (f := fun x y => x + y) h6 rfl) k
/-- THE LOOP -/
theorem cp_lp {iv : Instr} {v ixA ixB jA jB A B mo p qA qB : Nat} {N a b offe offb : Int} (hv : 1 ≤ v) (hmo : (1 ≤ mo ∧ mo ≤ n) ∧ (K mo).1 = 11 + 4) (hA : (1 ≤ A ∧ A ≤ n) ∧ (K A).1 = 0) (hB : (1 ≤ B ∧ B ≤ n) ∧ (K B).1 = 0) (rA : R mo jA = A) (rB : R mo jB = B) (fA : gm_fld (gm_ow mi) ixA 11 = some jA) (fB : gm_fld (gm_ow mi) ixB 11 = some jB) (sA : gm_isr 11 jA = true) (sB : gm_isr 11 jB = true)
    (bnd : (0 ≤ N ∧ N < 100000) ∧ (0 ≤ a ∧ a + N ≤ (K A).2) ∧ (0 ≤ b ∧ b + N ≤ (K B).2) ∧ (K A).2 < 100000 ∧ (K B).2 < 100000) (hab : A = B → a ≤ b) (hmA : ¬ mo = A) (hN : gm_ws N = N) (l0 : L[0]? = some (some (gm_vr mo))) (lv : L[v]? = some (some (gm_vi 0))) (hiv : gm_load iv = some (0, v) ∧ gm_len iv = 1) (lw : ∃ w, L[v - 1]? = some (some w) ∧ ¬ gm_sort w = 1)
    (c0 : gm_at mi p = some iv) (c1 : gm_at mi (p + 1) = some (.sipush N)) (c2 : gm_at mi (p + 4) = some (.if_icmp .ge offe)) (c3 : 0 ≤ ((p + 4 : Nat) : Int) + offe) (c4 : gm_at mi (p + 7) = some (.aload_n 0)) (c5 : gm_at mi (p + 8) = some (.getfield ixA)) (gA : cp_sg X LX d bc bs mi n K R M mo v L (p + 11) qA a) (c6 : gm_at mi qA = some (.aload_n 0)) (c7 : gm_at mi (qA + 1) = some (.getfield ixB)) (gB : cp_sg X LX d bc bs mi n K R M mo v L (qA + 4) qB b) (c8 : gm_at mi qB = some .iaload) (c9 : gm_at mi (qB + 1) = some .iastore) (c10 : gm_at mi (qB + 2) = some (.iinc v 1)) (c11 : gm_at mi (qB + 5) = some (.goto offb)) (c12 : 0 ≤ ((qB + 5 : Nat) : Int) + offb) (c13 : gm_tgt (qB + 5) offb = p)
    (hx : gm_Wp X LX d bc bs mi (gm_tgt (p + 4) offe) (L.set v (some (gm_vi N))) [] n K R (gm_cpy M A B a b N) Q) : gm_Wp X LX d bc bs mi p L [] n K R M Q := by
  obtain ⟨⟨n1, n2⟩, ⟨a1, a2⟩, ⟨b1, b2⟩, k1, k2⟩ := bnd
  have key : ∀ (k : Nat) (i : Int), 0 ≤ i → i ≤ N → N - i = (k : Int) → gm_Wp X LX d bc bs mi p (L.set v (some (gm_vi i))) [] n K R (gm_cpy M A B a b i) Q := by
    intro k
    induction k with
    | zero =>
      intro i h1 h2 h3
      have e : i = N := by omega
      subst e
      refine gm_sz (cp_ld hiv lv c0) ?_
      refine gm_sz (gm_p_const (pc := p + 1) (i := .sipush i) (v := gm_vi (gm_ws i)) c1 rfl) ?_
      rw [hN]
      exact gm_b_ic (pc := p + 4) c2 c3 (fun _ => hx) (fun hp => absurd (show gm_w i ≤ gm_w i from Int.le_refl _) hp)
    | succ k ih =>
      intro i h1 h2 h3
      have w1 : gm_w i = i := gm_w_id (by omega) (by omega)
      have w2 : gm_w N = N := gm_w_id (by omega) (by omega)
      have w3 : gm_w (a + i) = a + i := gm_w_id (by omega) (by omega)
      have w4 : gm_w (b + i) = b + i := gm_w_id (by omega) (by omega)
      have hm : ∀ j, gm_cpy M A B a b i mo j = M mo j := fun j => gm_cpy_ne hmA
      refine gm_sz (cp_ld hiv lv c0) ?_
      refine gm_sz (gm_p_const (pc := p + 1) (i := .sipush N) (v := gm_vi (gm_ws N)) c1 rfl) ?_
      rw [hN]
      refine gm_b_ic (pc := p + 4) c2 c3 (fun hp => ?_) (fun _ => ?_)
      · have hp : gm_w N ≤ gm_w i := hp
        omega
      refine gm_sz (gm_p_load (pc := p + 7) (i := .aload_n 0) (sr := 2) (j := 0) c4 rfl (cp_get0 hv l0) rfl) ?_
      refine gm_sz (gm_p_get (pc := p + 8) c5 hmo.1 hmo.2 fA) ?_
      rw [if_pos sA, rA]
      refine gA i _ _ _ hm ?_
      refine gm_sz (gm_p_load (pc := qA) (i := .aload_n 0) (sr := 2) (j := 0) c6 rfl (cp_get0 hv l0) rfl) ?_
      refine gm_sz (gm_p_get (pc := qA + 1) c7 hmo.1 hmo.2 fB) ?_
      rw [if_pos sB, rB]
      refine gB i _ _ _ hm ?_
      refine gm_sz (gm_p_iald (pc := qB) c8 hB.1 hB.2 (by rw [w4]; omega)) ?_
      rw [w4]
      refine gm_sz (gm_p_iast (pc := qB + 1) c9 hA.1 hA.2 (by rw [w3]; omega)) ?_
      rw [w3]
      refine gm_sz (gm_p_iinc (pc := qB + 2) c10 (cp_getv lv)) ?_
      refine gm_sz (gm_p_goto (pc := qB + 5) c11 c12) ?_
      rw [cp_lst hv lw, c13, gm_cpy_s hab h1]
      exact ih (i + 1) (by omega) (by omega) (by omega)
  have h := key N.toNat 0 (Int.le_refl _) n1 (by omega)
  rw [cp_set0 lv, gm_cpy_0] at h
  exact h
end CP
section CQ
variable {O : gm_Or} {X : Int → Int} {LX : Nat} {E : List (Nat × List ck_Sum)} {mi d n0 : Nat} {W : List (Nat × Int × Int) × List (Nat × Int)} {outs : List ck_Oc} {σ σ0 : Nat → Int} {K0 : gm_K} {R0 : gm_R} {M0 : gm_M} {n : Nat} {K : gm_K} {R : gm_R} {M : gm_M} {F : ck_F}
theorem gm_Fx_cpy {A B : Nat} {a b N : Int} (hF : gm_Fx O n K R M) (ht : ∀ r ∈ O.2.2.ty A, ∀ j, r.1 ≤ j → j ≤ r.2.1 → a ≤ j → j < a + N → (-2147483648 ≤ M B (j - a + b) ∧ M B (j - a + b) < 2147483648) ∧ r.2.2.1 ≤ M B (j - a + b) ∧ M B (j - a + b) ≤ r.2.2.2) (hJ : O.2.2.J K (gm_cpy M A B a b N)) : gm_Fx O n K R (gm_cpy M A B a b N) := by
  refine ⟨hF.1, hF.2.1, fun c r hr => ?_, hF.2.2.2.1, hJ⟩
  obtain ⟨g1, g2⟩ := hF.2.2.1 c r hr
  refine ⟨g1, fun j h1 h2 => ?_⟩
  unfold gm_cpy
  split
  · rename_i e
    obtain ⟨rfl, e1, e2⟩ := e
    exact ht r hr j h1 h2 e1 e2
  · exact g2 j h1 h2
/-- the types of what is copied are within the types of where it goes -/
noncomputable def cp_tc (O : gm_Or) (A B : Nat) (a b N : Int) : Bool := (O.2.2.ty A).all fun r => decide (r.2.1 < a) || (decide (a + N ≤ r.1) || (match gm_tyr O B ((if a ≤ r.1 then r.1 else a) - a + b) ((if r.2.1 < a + N then r.2.1 else a + N - 1) - a + b) with
  | some q => decide (r.2.2.1 ≤ q.1) && decide (q.2 ≤ r.2.2.2)
  | none => false))
theorem cp_tc_s {A B : Nat} {a b N : Int} (hF : gm_Fx O n K R M) (h : cp_tc O A B a b N = true) : ∀ r ∈ O.2.2.ty A, ∀ j, r.1 ≤ j → j ≤ r.2.1 → a ≤ j → j < a + N → (-2147483648 ≤ M B (j - a + b) ∧ M B (j - a + b) < 2147483648) ∧ r.2.2.1 ≤ M B (j - a + b) ∧ M B (j - a + b) ≤ r.2.2.2 := by
  intro r hr j h1 h2 h3 h4
  have h5 := List.all_eq_true.mp h r hr
  rw [Bool.or_eq_true, Bool.or_eq_true, decide_eq_true_eq, decide_eq_true_eq] at h5
  rcases h5 with h5 | h5 | h5
  · omega
  · omega
  · split at h5
    · rename_i q hq
      rw [Bool.and_eq_true, decide_eq_true_eq, decide_eq_true_eq] at h5
      obtain ⟨-, h6⟩ := gm_tyr_s hF hq
      have h7 := h6 (j - a + b) (by split <;> omega) (by split <;> omega)
      exact ⟨h7.1, Int.le_trans h5.1 h7.2.1, Int.le_trans h7.2.2 h5.2⟩
    · cases h5
theorem ck_fr_cpy {A B : Nat} {a b N wa wb : Int} (h : ck_fr W n0 K0 R0 M0 n K R M) (hw : ck_okW W.1 n0 A wa wb = true) (h1 : wa ≤ a) (h2 : a + N ≤ wb + 1) : ck_fr W n0 K0 R0 M0 n K R (gm_cpy M A B a b N) := by
  refine ⟨h.1, h.2.1, fun k j hk hb => ?_, h.2.2.2⟩
  rw [← h.2.2.1 k j hk hb]
  unfold gm_cpy
  rw [if_neg]
  rintro ⟨rfl, e1, e2⟩
  rw [ck_okW_def] at hw
  simp only [Bool.or_eq_true, decide_eq_true_eq, List.any_eq_true, Bool.and_eq_true, beq_iff_eq] at hw
  rcases hw with hw | ⟨w, hw1, hw2, hw3, hw4⟩
  · omega
  · exact hb w hw1 ⟨hw2, by omega, by omega⟩
theorem ck_gf_cpy {A B : Nat} {a b N wa wb : Int} (h : ck_gf σ F n K R M) (h1 : wa ≤ a) (h2 : a + N ≤ wb + 1) : ck_gf σ (F.1, F.2.1, ck_cws [(A, wa, wb)] F.2.2) n K R (gm_cpy M A B a b N) := by
  refine ⟨h.1, h.2.1, fun q hq => ?_⟩
  obtain ⟨p, hp, e1, e2, e3⟩ := ck_cws_s (ws := [(A, wa, wb)]) (l := F.2.2) hq
  have h3 := h.2.2 p hp
  refine ⟨by rw [e1]; exact h3.1, fun j h4 h5 => ?_⟩
  obtain ⟨h6, h7⟩ := e3 j h4 h5
  have h8 := h7 (A, wa, wb) List.mem_cons_self
  have h9 : gm_cpy M A B a b N q.1 j = M p.1 j := by
    rw [e1]
    unfold gm_cpy
    rw [if_neg]
    rintro ⟨e4, e5, e6⟩
    exact h8 ⟨e4.symm, by dsimp only; omega, by dsimp only; omega⟩
  rw [h9, e2]
  exact h3.2 j h6.1 h6.2
theorem ck_gl_set {AL : ck_AL} {L : gm_L} {v : Nat} {N : Int} (hN : gm_ir N) (h : ck_gl σ AL L) : ck_gl σ (AL.set v (some (.inl (ck_one N)))) (L.set v (some (gm_vi N))) := ck_set h ⟨N, rfl, hN, ck_one_s N⟩
/-- A COPY on the way: what is known behind it -/
theorem ck_cpH {p pc' v A B f : Nat} {N wa wb : Int} {c : ck_C} {bc0 bs0 : Nat} {ch : List ck_H} {cuts : List (Nat × ck_C)} (hcu : ck_cu cuts = true) (hE : ck_nmu O ∧ ck_OkE O X LX E) (hσ : ∀ s, s < 100 → σ s = σ0 s) (hN : gm_ir N) (hw : ck_okW W.1 n0 A wa wb = true)
    (hl : ∀ (bc bs : Nat) (L : gm_L) (K : gm_K) (R : gm_R) (M : gm_M), ck_St O σ W n0 K0 R0 M0 c.1 [] c.2.1 L [] n K R M → ∃ a b : Int, (wa ≤ a ∧ a + N ≤ wb + 1) ∧ gm_Fx O n K R (gm_cpy M A B a b N) ∧ ∀ Q, gm_Wp X LX d bc bs mi pc' (L.set v (some (gm_vi N))) [] n K R (gm_cpy M A B a b N) Q → gm_Wp X LX d bc bs mi p L [] n K R M Q)
    (hgo : ck_go O none [] E mi d n0 W outs cuts f false ch bc0 bs0 pc' (c.1.set v (some (.inl (ck_one N)))) [] n (c.2.1.1, c.2.1.2.1, ck_cws [(A, wa, wb)] c.2.1.2.2) = true)
    (hch : ∀ h ∈ ch, (h.1, h.2.1) ∈ cuts ∧ ck_Hy O X LX mi d W n0 K0 R0 M0 (ck_Q O σ0 W n0 K0 R0 M0 outs) σ h) : ck_Hy O X LX mi d W n0 K0 R0 M0 (ck_Q O σ0 W n0 K0 R0 M0 outs) σ (p, c, bc0, bs0, n) := by
  intro x _ bc bs L K R M hb1 hb2 hS _
  obtain ⟨a, b, ⟨h1, h2⟩, h3, h4⟩ := hl bc bs L K R M hS
  obtain ⟨f1, f2, f3, f4, f5⟩ := hS
  refine h4 _ (gm_Wp_wk (Nat.le_refl _) hb1 hb2 (ck_go_s (σ0 := σ0) hcu hE ck_X0 ck_l0 f false ch _ _ _ _ [] _ _ σ _ [] K R _ hσ hch ⟨h3, ck_gl_set hN f2, rfl, ck_gf_cpy f4 h1 h2, ck_fr_cpy f5 hw h1 h2⟩ hgo))
end CQ
