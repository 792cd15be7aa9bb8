/-! THE CHECKER: what its rows are put together with. -/
section CE
variable {O : gm_Or} {X : Int → Int} {LX : Nat}
theorem ck_S0 {mj : Nat} : ∀ S ∈ ([] : List ck_Sum), ck_Ok O X LX mj S := fun _ h => nomatch h
theorem ck_S1 {mj : Nat} {S : ck_Sum} {l : List ck_Sum} (h : ck_Ok O X LX mj S) (t : ∀ S ∈ l, ck_Ok O X LX mj S) : ∀ S' ∈ S :: l, ck_Ok O X LX mj S' := fun S' hm => (List.mem_cons.mp hm).elim (fun e => by rw [e]; exact h) (t S')
theorem ck_E0 : ck_OkE O X LX [] := fun _ _ h => nomatch h
theorem ck_E1 {mj : Nat} {l : List ck_Sum} {E : List (Nat × List ck_Sum)} (h : ∀ S ∈ l, ck_Ok O X LX mj S) (t : ck_OkE O X LX E) : ck_OkE O X LX ((mj, l) :: E) := by
  intro mj' l' he
  rw [List.lookup_cons] at he
  by_cases e : mj' = mj
  · subst e
    rw [beq_self_eq_true] at he
    cases he
    exact h
  · rw [beq_false_of_ne e] at he
    exact t mj' l' he
theorem ck_X0 : ∀ σ, ck_OkX σ X [] := fun _ _ h => nomatch h
theorem ck_l0 : ∀ l, (none : Option Nat) = some l → l = LX := fun _ h => nomatch h
end CE
/-! WHAT NEVER CHANGES, as a table: kind and length, references, types; sixteen cells a row. -/
abbrev ck_TT : Type := List (List (Option ((Nat × Nat) × List (Int × Nat) × List (Int × Int × Int × Int))))
def ck_tab (T : ck_TT) (k : Nat) : Option ((Nat × Nat) × List (Int × Nat) × List (Int × Int × Int × Int)) := match T[k / 16]? with
  | some r => (match r[k % 16]? with
    | some e => e
    | none => none)
  | none => none
/-- of the table, with what is written by hand: stretches that nothing writes, what is said of them, names, counted cells -/
def ck_OG (T : ck_TT) (fp : Nat → List (Int × Int)) (J : gm_JJ) (nm : List (Nat × Nat × Int)) (gh : Option (Nat × Int × Int)) (hJ : gm_hP fp J gh) : gm_Or := (fun k => match ck_tab T k with
  | some e => some e.1
  | none => none, fun k j => match ck_tab T k with
  | some e => e.2.1.lookup j
  | none => none, ⟨(fun k => match ck_tab T k with
    | some e => e.2.2
    | none => [], fp, J, nm, gh), hJ⟩)
def ck_OT (T : ck_TT) (fp : Nat → List (Int × Int)) (J : gm_JJ) (nm : List (Nat × Nat × Int)) (hJ : ∀ (K K' : gm_K) (M M' : gm_M), (∀ k r, r ∈ fp k → K' k = K k) → (∀ k r, r ∈ fp k → ∀ j, r.1 ≤ j → j ≤ r.2 → M' k j = M k j) → J K M → J K' M') : gm_Or := ck_OG T fp J nm none ⟨hJ, fun _ h => nomatch h⟩
