/-! THE EVALUATION of a stretch of code to a formula: gm_wx; it stops at the cuts (loop heads), and at calls it uses what is known of the callee. -/
/-- the fixed part of the cells: kind and length, references, numbers that never change -/
abbrev gm_Or : Type := (Nat → Option (Nat × Nat)) × (Nat → Int → Option Nat) × (Nat → Int → Option Int)
def gm_Fx (O : gm_Or) (n : Nat) (K : gm_K) (R : gm_R) (M : gm_M) : Prop :=
  (∀ k q, O.1 k = some q → 1 ≤ k ∧ k ≤ n ∧ K k = q) ∧ (∀ k j r, O.2.1 k j = some r → k ≤ n ∧ R k j = r) ∧ (∀ k j v, O.2.2 k j = some v → k ≤ n ∧ 4 ≤ (K k).1 ∧ M k j = v)
def gm_Wo (O : gm_Or) (X : Int → Int) (LX d bc bs mi pc : Nat) (L : gm_L) (st : List gm_V) (n : Nat) (K : gm_K) (R : gm_R) (M : gm_M) (Q : gm_Q) : Prop :=
  gm_Fx O n K R M → gm_Wp X LX d bc bs mi pc L st n K R M (fun o n K R M => gm_Fx O n K R M ∧ Q o n K R M)
/-- what is known of a method: frames, cells, slots, before, behind -/
abbrev gm_Sc : Type := Nat × Nat × Nat × (List gm_V → Nat → gm_K → gm_R → gm_M → Prop) × (List gm_V → Nat → gm_K → gm_R → gm_M → gm_Q)
/-- of a method that changes nothing: frames, before, its value -/
abbrev gm_Pu : Type := Nat × (List gm_V → Nat → gm_K → gm_R → gm_M → Prop) × (List gm_V → Nat → gm_K → gm_R → gm_M → Option gm_V)
def gm_OkE (O : gm_Or) (X : Int → Int) (LX : Nat) (E : List (Nat × gm_Sc)) : Prop := ∀ mj h mc ms pre post, E.lookup mj = some (h, mc, ms, pre, post) → ∀ d vs n K R M, h ≤ d → pre vs n K R M → gm_Wo O X LX d mc ms mj 0 (gm_ent mj vs) [] n K R M (post vs n K R M)
def gm_OkP (O : gm_Or) (X : Int → Int) (LX : Nat) (P : List (Nat × gm_Pu)) : Prop := ∀ mj h pre val, P.lookup mj = some (h, pre, val) → ∀ d vs n K R M, h ≤ d → pre vs n K R M → gm_Wo O X LX d 0 0 mj 0 (gm_ent mj vs) [] n K R M (fun o n' K' R' M' => o = .inl (val vs n K R M) ∧ n' = n ∧ K' = K ∧ R' = R ∧ M' = M)
def gm_ir (x : Int) : Prop := -2147483648 ≤ x ∧ x < 2147483648
def gm_ld (L : gm_L) (sr j : Nat) (k : gm_V → Prop) : Prop := match L[j]? with
  | some (some v) => if gm_sort v = sr then k v else False
  | _ => False
def gm_sto (L : gm_L) (sr j : Nat) : List gm_V → (gm_L → List gm_V → Prop) → Prop
  | v :: st, k => if gm_sort v = sr ∧ j + (if sr = 1 then 1 else 0) < L.length then k (gm_lst L j v) st else False
  | [], _ => False
def gm_two2 : List gm_V → (Int → Int → List gm_V → Prop) → Prop
  | .inl y :: .inl x :: st, k => k x y st
  | _, _ => False
def gm_one : List gm_V → (Int → List gm_V → Prop) → Prop
  | .inl x :: st, k => k x st
  | _, _ => False
def gm_twl : List gm_V → (Int → Int → List gm_V → Prop) → Prop
  | .inr (.inl y) :: .inr (.inl x) :: st, k => k x y st
  | _, _ => False
def gm_lin : List gm_V → (Int → Int → List gm_V → Prop) → Prop
  | .inl y :: .inr (.inl x) :: st, k => k x y st
  | _, _ => False
/-- a comparison of numbers that are ints -/
def gm_cm : ClassFile.Cond → Int → Int → Prop
  | .eq, x, y => x = y
  | .ne, x, y => ¬ x = y
  | .lt, x, y => x < y
  | .ge, x, y => y ≤ x
  | .gt, x, y => y < x
  | .le, x, y => x ≤ y
theorem gm_ir_w {x : Int} (h : gm_ir x) : gm_w x = x := gm_w_id h.1 h.2
theorem gm_cm_w {c : ClassFile.Cond} {x y : Int} (hx : gm_ir x) (hy : gm_ir y) : gm_cmp c x y = gm_cm c x y := by
  cases c <;> simp only [gm_cmp, gm_cm, gm_ir_w hx, gm_ir_w hy]
/-- the cell k is of this kind: seen in the fixed part, else owed -/
def gm_isK (O : gm_Or) (n : Nat) (K : gm_K) (k kind : Nat) (g : Prop) : Prop := match O.1 k with
  | some q => if q.1 = kind then g else False
  | none => (1 ≤ k ∧ k ≤ n ∧ (K k).1 = kind) ∧ g
theorem gm_isK_of {O : gm_Or} {n : Nat} {K : gm_K} {R : gm_R} {M : gm_M} {k kind : Nat} {g : Prop} (hF : gm_Fx O n K R M) (h : gm_isK O n K k kind g) : (1 ≤ k ∧ k ≤ n) ∧ (K k).1 = kind ∧ g := by
  unfold gm_isK at h
  cases hq : O.1 k with
  | none => rw [hq] at h; exact ⟨⟨h.1.1, h.1.2.1⟩, h.1.2.2, h.2⟩
  | some q =>
    rw [hq] at h
    obtain ⟨h1, h2, h3⟩ := hF.1 k q hq
    dsimp only at h
    split at h
    · rename_i e; exact ⟨⟨h1, h2⟩, by rw [h3]; exact e, h⟩
    · exact h.elim
/-- the length of the row k -/
def gm_len_ (O : gm_Or) (K : gm_K) (k : Nat) : Int := match O.1 k with
  | some q => q.2
  | none => (K k).2
theorem gm_len_of {O : gm_Or} {n : Nat} {K : gm_K} {R : gm_R} {M : gm_M} {k : Nat} (hF : gm_Fx O n K R M) : gm_len_ O K k = (K k).2 := by
  unfold gm_len_
  cases hq : O.1 k with
  | none => rfl
  | some q => rw [(hF.1 k q hq).2.2]
def gm_gM (O : gm_Or) (M : gm_M) (k : Nat) (j : Int) : Int := match O.2.2 k j with
  | some v => v
  | none => M k j
theorem gm_gM_of {O : gm_Or} {n : Nat} {K : gm_K} {R : gm_R} {M : gm_M} (hF : gm_Fx O n K R M) (k : Nat) (j : Int) : gm_gM O M k j = M k j := by
  unfold gm_gM
  cases hq : O.2.2 k j with
  | none => rfl
  | some q => exact (hF.2.2 k j q hq).2.2.symm
def gm_gR (O : gm_Or) (R : gm_R) (k : Nat) (j : Int) : Nat := match O.2.1 k j with
  | some v => v
  | none => R k j
theorem gm_gR_of {O : gm_Or} {n : Nat} {K : gm_K} {R : gm_R} {M : gm_M} (hF : gm_Fx O n K R M) (k : Nat) (j : Int) : gm_gR O R k j = R k j := by
  unfold gm_gR
  cases hq : O.2.1 k j with
  | none => rfl
  | some q => exact (hF.2.1 k j q hq).2.symm
/-- a number is written: not one that never changes -/
theorem gm_Fx_M {O : gm_Or} {n : Nat} {K : gm_K} {R : gm_R} {M : gm_M} {k : Nat} {j v : Int} (hF : gm_Fx O n K R M) (h : O.2.2 k j = none ∨ (K k).1 < 4) : gm_Fx O n K R (gm_uM M k j v) := by
  refine ⟨hF.1, hF.2.1, fun a b x hx => ?_⟩
  obtain ⟨h1, h2, h3⟩ := hF.2.2 a b x hx
  refine ⟨h1, h2, ?_⟩
  unfold gm_uM
  split
  · rename_i e
    obtain ⟨rfl, rfl⟩ := e
    rcases h with h | h
    · rw [h] at hx; cases hx
    · omega
  · exact h3
theorem gm_Fx_R {O : gm_Or} {n : Nat} {K : gm_K} {R : gm_R} {M : gm_M} {k : Nat} {j : Int} {v : Nat} (hF : gm_Fx O n K R M) (h : O.2.1 k j = none) : gm_Fx O n K (gm_uR R k j v) M := by
  refine ⟨hF.1, fun a b x hx => ?_, hF.2.2⟩
  obtain ⟨h1, h3⟩ := hF.2.1 a b x hx
  refine ⟨h1, ?_⟩
  unfold gm_uR
  split
  · rename_i e
    obtain ⟨rfl, rfl⟩ := e
    rw [h] at hx; cases hx
  · exact h3
theorem gm_Fx_n {O : gm_Or} {n kd len : Nat} {K : gm_K} {R : gm_R} {M : gm_M} (hF : gm_Fx O n K R M) : gm_Fx O (n + 1) (gm_nK K n kd len) (gm_nR R n) (gm_nM M n) := by
  refine ⟨fun k q h => ?_, fun k j r h => ?_, fun k j v h => ?_⟩
  · obtain ⟨h1, h2, h3⟩ := hF.1 k q h
    exact ⟨h1, by omega, by unfold gm_nK; rw [if_neg (by omega)]; exact h3⟩
  · obtain ⟨h1, h2⟩ := hF.2.1 k j r h
    exact ⟨by omega, by unfold gm_nR; rw [if_neg (by omega)]; exact h2⟩
  · obtain ⟨h1, h2, h3⟩ := hF.2.2 k j v h
    exact ⟨by omega, by unfold gm_nK; rw [if_neg (by omega)]; exact h2, by unfold gm_nM; rw [if_neg (by omega)]; exact h3⟩
