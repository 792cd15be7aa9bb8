/-! 20.ck -/
section
/-! THE CHECKER: a method is explored over bounds of ints, with names; the heap is a list of facts; loops are cut where it is told. -/
abbrev ck_I : Type := Int × Int × List (Nat × Int)
abbrev ck_A : Type := ck_I ⊕ (ck_I ⊕ (Nat ⊕ Nat))
/-- where a number stands too: a local, a cell; it is more by so much -/
abbrev ck_S : Type := Option ((Nat × Int) ⊕ ((Nat × Int × Int) ⊕ (Nat × Int × Nat × Int × Int)))
abbrev ck_AL : Type := List (Option ck_A)
abbrev ck_AS : Type := List (ck_A × ck_S)
/-- kinds and lengths; references; ints: cell, from, to, bounds -/
abbrev ck_F : Type := List (Nat × Nat × Nat) × List (Nat × Int × Nat) × List (Nat × Int × Int × ck_I)
/-- how it ends (a throw, or a value or none), how many cells there are then, facts -/
abbrev ck_Oc : Type := (Nat ⊕ Option ck_A) × Nat × ck_F
/-- frames, cells, slots; cells that are there; arguments; facts; what may be written: ints, references; ends -/
abbrev ck_Sum : Type := (Nat × Nat × Nat) × Nat × List ck_A × ck_F × (List (Nat × Int × Int) × List (Nat × Int)) × List ck_Oc
/-- a cut: locals, facts, the name, its place, whether it grows -/
abbrev ck_C : Type := ck_AL × ck_F × Nat × (Nat ⊕ (Nat × Int)) × Bool
/-- a cut on the way: place, what is known there, cells, slots, cells that are there -/
abbrev ck_H : Type := Nat × ck_C × Nat × Nat × Nat
/-! meanings -/
def ck_r6 (x : Int) : Prop := -9223372036854775808 ≤ x ∧ x < 9223372036854775808
/-- a name and an offset: the number itself; a name from 1000000 on: the number is not less -/
def ck_g1 (σ : Nat → Int) (q : Nat × Int) (x : Int) : Prop := (q.1 < 1000000 → x = σ q.1 + q.2) ∧ (1000000 ≤ q.1 → σ (q.1 - 1000000) + q.2 ≤ x)
def ck_gt (σ : Nat → Int) (t : List (Nat × Int)) (x : Int) : Prop := ∀ q, q ∈ t → ck_g1 σ q x
def ck_gi (σ : Nat → Int) (a : ck_I) (x : Int) : Prop := a.1 ≤ x ∧ x ≤ a.2.1 ∧ ck_gt σ a.2.2 x
def ck_ga (σ : Nat → Int) : ck_A → gm_V → Prop
  | .inl a, v => ∃ x, v = gm_vi x ∧ gm_ir x ∧ ck_gi σ a x
  | .inr (.inl a), v => ∃ x, v = gm_vl x ∧ ck_r6 x ∧ ck_gi σ a x
  | .inr (.inr (.inl k)), v => v = gm_vr k
  | .inr (.inr (.inr c)), v => v = gm_vo c
def ck_gl (σ : Nat → Int) (AL : ck_AL) (L : gm_L) : Prop := AL.length = L.length ∧ ∀ (j : Nat) (b : ck_A), AL[j]? = some (some b) → ∃ u, L[j]? = some (some u) ∧ ck_ga σ b u
def ck_gr (L : gm_L) (M : gm_M) : ck_S → gm_V → Prop
  | none, _ => True
  | some (.inl q), v => ∃ u, L[q.1]? = some (some u) ∧ (v = u ∧ q.2 = 0 ∨ ∃ y, u = gm_vi y ∧ v = gm_vi (y + q.2))
  | some (.inr (.inl q)), v => v = gm_vi (M q.1 q.2.1 + q.2.2)
  | some (.inr (.inr q)), v => v = gm_vi (M q.1 q.2.1 - M q.2.2.1 q.2.2.2.1 + q.2.2.2.2)
def ck_gs (σ : Nat → Int) (L : gm_L) (M : gm_M) : ck_AS → List gm_V → Prop
  | [], st => st = []
  | a :: as, st => ∃ v vs, st = v :: vs ∧ (ck_ga σ a.1 v ∧ ck_gr L M a.2 v) ∧ ck_gs σ L M as vs
def ck_gf (σ : Nat → Int) (F : ck_F) (n : Nat) (K : gm_K) (R : gm_R) (M : gm_M) : Prop :=
  (∀ q ∈ F.1, (1 ≤ q.1 ∧ q.1 ≤ n) ∧ K q.1 = q.2) ∧ (∀ q ∈ F.2.1, q.1 ≤ n ∧ R q.1 q.2.1 = q.2.2) ∧ ∀ q ∈ F.2.2, q.1 ≤ n ∧ ∀ j, q.2.1 ≤ j → j ≤ q.2.2.1 → gm_ir (M q.1 j) ∧ ck_gi σ q.2.2.2 (M q.1 j)
def ck_fr (W : List (Nat × Int × Int) × List (Nat × Int)) (n0 : Nat) (K0 : gm_K) (R0 : gm_R) (M0 : gm_M) (n : Nat) (K : gm_K) (R : gm_R) (M : gm_M) : Prop :=
  n0 ≤ n ∧ (∀ k, k ≤ n0 → K k = K0 k) ∧ (∀ k j, k ≤ n0 → (∀ w ∈ W.1, ¬ (w.1 = k ∧ w.2.1 ≤ j ∧ j ≤ w.2.2)) → M k j = M0 k j) ∧ (∀ k j, k ≤ n0 → ¬ (k, j) ∈ W.2 → R k j = R0 k j)
/-! words of the checker -/
def ck_top : ck_I := (-2147483648, 2147483647, [])
def ck_tp6 : ck_I := (-9223372036854775808, 9223372036854775807, [])
def ck_one (z : Int) : ck_I := (z, z, [])
def ck_in (a : ck_I) : Bool := decide (-2147483648 ≤ a.1) && decide (a.2.1 ≤ 2147483647)
def ck_nrm (a : ck_I) : ck_I := if ck_in a = true then a else ck_top
def ck_sg (a : ck_I) : Bool := decide (a.1 = a.2.1)
def ck_mv (t : List (Nat × Int)) (z : Int) : List (Nat × Int) := t.map fun q => (q.1, q.2 + z)
def ck_cv : gm_V → ck_A
  | .inl x => .inl (ck_one x)
  | .inr (.inl x) => .inr (.inl (ck_one x))
  | .inr (.inr (.inl k)) => .inr (.inr (.inl k))
  | .inr (.inr (.inr c)) => .inr (.inr (.inr c))
def ck_cvk : gm_V → Bool
  | .inl x => decide (-2147483648 ≤ x) && decide (x < 2147483648)
  | .inr (.inl x) => decide (-9223372036854775808 ≤ x) && decide (x < 9223372036854775808)
  | _ => true
def ck_so : ck_A → Nat
  | .inl _ => 0
  | .inr (.inl _) => 1
  | .inr (.inr _) => 2
/-- two ints, first and second: bounds of the result -/
def ck_aop : Instr → ck_I → ck_I → ck_I
  | .iadd, a, b => (a.1 + b.1, a.2.1 + b.2.1, if ck_sg b = true then ck_mv a.2.2 b.1 else if ck_sg a = true then ck_mv b.2.2 a.1 else [])
  | .isub, a, b => (a.1 - b.2.1, a.2.1 - b.1, if ck_sg b = true then ck_mv a.2.2 (- b.1) else [])
  | .imul, a, b => if 0 ≤ a.1 ∧ 0 ≤ b.1 then (a.1 * b.1, a.2.1 * b.2.1, []) else ck_top
  | .iand, a, b => if 0 ≤ b.1 then (0, b.2.1, []) else if 0 ≤ a.1 then (0, a.2.1, []) else ck_top
  | _, _, _ => ck_top
def ck_bo (i : Instr) (f : Int → Int → Int) (a b : ck_I) : ck_I := if (ck_sg a && ck_sg b) = true then ck_one (gm_w (f a.1 b.1)) else ck_nrm (ck_aop i a b)
/-- no name s -/
def ck_nI (s : Nat) (a : ck_I) : Bool := a.2.2.all fun q => !(q.1 == s) && !(q.1 == s + 1000000)
def ck_nA (s : Nat) : ck_A → Bool
  | .inl a => ck_nI s a
  | .inr (.inl a) => ck_nI s a
  | _ => true
def ck_nL (s : Nat) (AL : ck_AL) : Bool := AL.all fun a => match a with
  | some b => ck_nA s b
  | none => true
def ck_nF (s : Nat) (F : ck_F) : Bool := F.2.2.all fun q => ck_nI s q.2.2.2
/-- what is known is enough -/
def ck_im (t : List (Nat × Int)) (q : Nat × Int) : Bool := t.any fun p => (p.1 == q.1 && decide (p.2 = q.2)) || (decide (1000000 ≤ q.1) && (decide (q.2 ≤ p.2) && (p.1 == q.1 || (p.1 + 1000000 == q.1 && decide (p.1 < 1000000)))))
noncomputable def ck_leI (a b : ck_I) : Bool := fl_if (fl_le b.1 a.1) (fl_if (fl_le a.2.1 b.2.1) (fl_all b.2.2 (ck_im a.2.2)) false) false
theorem ck_leI_def {a b : ck_I} : ck_leI a b = (decide (b.1 ≤ a.1) && decide (a.2.1 ≤ b.2.1) && b.2.2.all (ck_im a.2.2)) := by
  simp only [ck_leI, fl_and, fl_or, fl_beq, fl_blt, fl_le_eq, fl_lt_eq, fl_ie_eq, fl_any_eq, fl_all_eq, fl_find_eq, fl_lk_eq, fl_nth_eq, Bool.and_assoc]
noncomputable def ck_ex (a : ck_I) : Bool := a.2.2.any fun p => decide (p.1 < 1000000)
noncomputable def ck_leA : ck_A → ck_A → Bool
  | .inl a, .inl b => ck_leI a b
  | .inr (.inl a), .inr (.inl b) => ck_leI a b
  | .inr (.inr (.inl k)), .inr (.inr (.inl j)) => k == j
  | .inr (.inr (.inr k)), .inr (.inr (.inr j)) => k == j
  | _, _ => false
noncomputable def ck_leL : ck_AL → ck_AL → Bool
  | [], [] => true
  | _ :: as, none :: bs => ck_leL as bs
  | some a :: as, some b :: bs => ck_leA a b && ck_leL as bs
  | _, _ => false
noncomputable def ck_fi (F : ck_F) (k : Nat) (lo hi : Int) : Option ck_I := (fl_find F.2.2 fun q => fl_if (Nat.beq q.1 k) (fl_if (fl_le q.2.1 lo) (fl_le hi q.2.2.1) false) false).map fun q => q.2.2.2
theorem ck_fi_def {F : ck_F} {k : Nat} {lo hi : Int} : ck_fi F k lo hi = (F.2.2.find? fun q => q.1 == k && (decide (q.2.1 ≤ lo) && decide (hi ≤ q.2.2.1))).map fun q => q.2.2.2 := by
  simp only [ck_fi, fl_and, fl_or, fl_beq, fl_blt, fl_le_eq, fl_lt_eq, fl_ie_eq, fl_any_eq, fl_all_eq, fl_find_eq, fl_lk_eq, fl_nth_eq]
noncomputable def ck_fR (O : gm_Or) (F : ck_F) (k : Nat) (j : Int) : Option Nat := match O.2.1 k j with
  | some r => some r
  | none => (fl_find F.2.1 fun q => fl_if (Nat.beq q.1 k) (fl_ie q.2.1 j) false).map fun q => q.2.2
theorem ck_fR_def {O : gm_Or} {F : ck_F} {k : Nat} {j : Int} : ck_fR O F k j = match O.2.1 k j with
  | some r => some r
  | none => (F.2.1.find? fun q => q.1 == k && decide (q.2.1 = j)).map fun q => q.2.2 := by
  simp only [ck_fR, fl_and, fl_or, fl_beq, fl_blt, fl_le_eq, fl_lt_eq, fl_ie_eq, fl_any_eq, fl_all_eq, fl_find_eq, fl_lk_eq, fl_nth_eq]
noncomputable def ck_kd (O : gm_Or) (F : ck_F) (k : Nat) : Option (Nat × Nat) := match O.1 k with
  | some q => some q
  | none => (fl_find F.1 fun q => Nat.beq q.1 k).map fun q => q.2
theorem ck_kd_def {O : gm_Or} {F : ck_F} {k : Nat} : ck_kd O F k = match O.1 k with
  | some q => some q
  | none => (F.1.find? fun q => q.1 == k).map fun q => q.2 := by
  simp only [ck_kd, fl_and, fl_or, fl_beq, fl_blt, fl_le_eq, fl_lt_eq, fl_ie_eq, fl_any_eq, fl_all_eq, fl_find_eq, fl_lk_eq, fl_nth_eq]
/-- a fact, or else what the types say -/
noncomputable def ck_rd (O : gm_Or) (F : ck_F) (k : Nat) (lo hi : Int) : Option ck_I := match ck_fi F k lo hi with
  | some a => some a
  | none => (match gm_tyr O k lo hi with
    | some t => some (t.1, t.2, [])
    | none => none)
/-- a row of cells, piece by piece -/
noncomputable def ck_pcs (F : ck_F) (k : Nat) (b : ck_I) : Nat → Int → Int → Bool
  | 0, lo, hi => decide (hi < lo)
  | f + 1, lo, hi => decide (hi < lo) || (match fl_find F.2.2 fun q => fl_if (Nat.beq q.1 k) (fl_if (fl_le q.2.1 lo) (fl_le lo q.2.2.1) false) false with
    | some q => ck_leI q.2.2.2 b && ck_pcs F k b f (q.2.2.1 + 1) hi
    | none => false)
noncomputable def ck_leF (O : gm_Or) (F G : ck_F) : Bool := fl_if (fl_all G.1 fun q => match ck_kd O F q.1 with
    | some p => p.1 == q.2.1 && p.2 == q.2.2
    | none => false) (fl_if (fl_all G.2.1 fun q => match ck_fR O F q.1 q.2.1 with
    | some r => r == q.2.2
    | none => false) (fl_all G.2.2 fun q => (match ck_rd O F q.1 q.2.1 q.2.2.1 with
    | some a => ck_leI a q.2.2.2
    | none => false) || (decide (q.2.1 ≤ q.2.2.1) && ck_pcs F q.1 q.2.2.2 40 q.2.1 q.2.2.1)) false) false
theorem ck_leF_def {O : gm_Or} {F G : ck_F} : ck_leF O F G = ((G.1.all fun q => match ck_kd O F q.1 with
    | some p => p.1 == q.2.1 && p.2 == q.2.2
    | none => false) && ((G.2.1.all fun q => match ck_fR O F q.1 q.2.1 with
    | some r => r == q.2.2
    | none => false) && G.2.2.all fun q => (match ck_rd O F q.1 q.2.1 q.2.2.1 with
    | some a => ck_leI a q.2.2.2
    | none => false) || (decide (q.2.1 ≤ q.2.2.1) && ck_pcs F q.1 q.2.2.2 40 q.2.1 q.2.2.1))) := by
  unfold ck_leF
  rw [fl_and, fl_and, fl_all_eq, fl_all_eq, fl_all_eq]
noncomputable def ck_jn (a b : ck_I) : ck_I := (if a.1 ≤ b.1 then a.1 else b.1, if a.2.1 ≤ b.2.1 then b.2.1 else a.2.1, a.2.2.filter (ck_im b.2.2))
/-- an int is written into cell k, at a place from lo to hi -/
noncomputable def ck_cut (lo hi : Int) (a : ck_I) (q : Nat × Int × Int × ck_I) : List (Nat × Int × Int × ck_I) := if lo = hi then (if q.2.1 < lo then [(q.1, q.2.1, lo - 1, q.2.2.2)] else []) ++ (if lo < q.2.2.1 then [(q.1, lo + 1, q.2.2.1, q.2.2.2)] else []) else [(q.1, q.2.1, q.2.2.1, ck_jn q.2.2.2 a)]
noncomputable def fl_up (k : Nat) (lo hi : Int) (a : ck_I) (l : List (Nat × Int × Int × ck_I)) : List (Nat × Int × Int × ck_I) := @List.rec _ (fun _ => List (Nat × Int × Int × ck_I)) [] (fun q _ ih => fl_if (fl_if (Nat.beq q.1 k) (fl_if (fl_le q.2.1 hi) (fl_le lo q.2.2.1) false) false) (ck_cut lo hi a q ++ ih) (q :: ih)) l
theorem fl_up_eq {k : Nat} {lo hi : Int} {a : ck_I} {l : List (Nat × Int × Int × ck_I)} : fl_up k lo hi a l = l.flatMap fun q => if q.1 = k ∧ q.2.1 ≤ hi ∧ lo ≤ q.2.2.1 then ck_cut lo hi a q else [q] := by
  induction l with
  | nil => rfl
  | cons q l ih =>
    rw [List.flatMap_cons, ← ih]
    show fl_if (fl_if (Nat.beq q.1 k) (fl_if (fl_le q.2.1 hi) (fl_le lo q.2.2.1) false) false) (ck_cut lo hi a q ++ fl_up k lo hi a l) (q :: fl_up k lo hi a l) = _
    rw [fl_and, fl_and, fl_beq, fl_le_eq, fl_le_eq]
    by_cases h : q.1 = k ∧ q.2.1 ≤ hi ∧ lo ≤ q.2.2.1
    · rw [if_pos h, show (q.1 == k && (decide (q.2.1 ≤ hi) && decide (lo ≤ q.2.2.1))) = true by simp [h.1, h.2.1, h.2.2]]; rfl
    · rw [if_neg h, show (q.1 == k && (decide (q.2.1 ≤ hi) && decide (lo ≤ q.2.2.1))) = false by
        rw [Bool.eq_false_iff]; intro h2; simp only [Bool.and_eq_true, beq_iff_eq, decide_eq_true_eq] at h2; exact h h2]; rfl
noncomputable def ck_up (F : ck_F) (k : Nat) (lo hi : Int) (a : ck_I) : ck_F := (F.1, F.2.1, (if lo = hi then [(k, lo, lo, a)] else []) ++ fl_up k lo hi a F.2.2)
theorem ck_up_def {F : ck_F} {k : Nat} {lo hi : Int} {a : ck_I} : ck_up F k lo hi a = (F.1, F.2.1, (if lo = hi then [(k, lo, lo, a)] else []) ++ F.2.2.flatMap fun q => if q.1 = k ∧ q.2.1 ≤ hi ∧ lo ≤ q.2.2.1 then ck_cut lo hi a q else [q]) := by
  unfold ck_up
  rw [fl_up_eq]
/-- as ck_up; a write that says no more than the type leaves no fact -/
noncomputable def ck_upc (O : gm_Or) (k : Nat) (lo hi : Int) (a : ck_I) : Bool := decide (lo = hi) && (a.2.2.isEmpty && (match gm_tyr O k lo lo with
  | some t => decide (t.1 = a.1) && decide (t.2 = a.2.1)
  | none => false))
noncomputable def ck_upT (O : gm_Or) (F : ck_F) (k : Nat) (lo hi : Int) (a : ck_I) : ck_F := if ck_upc O k lo hi a = true then (F.1, F.2.1, (ck_up F k lo hi a).2.2.drop 1) else ck_up F k lo hi a
noncomputable def ck_upR (F : ck_F) (k : Nat) (j : Int) (r : Nat) : ck_F := (F.1, (k, j, r) :: F.2.1.filter (fun q => !(q.1 == k && decide (q.2.1 = j))), F.2.2)
/-- may it be written -/
noncomputable def ck_okW (W : List (Nat × Int × Int)) (n0 k : Nat) (lo hi : Int) : Bool := fl_if (Nat.ble (Nat.succ n0) k) true (fl_any W fun w => fl_if (Nat.beq w.1 k) (fl_if (fl_le w.2.1 lo) (fl_le hi w.2.2) false) false)
theorem ck_okW_def {W : List (Nat × Int × Int)} {n0 k : Nat} {lo hi : Int} : ck_okW W n0 k lo hi = (decide (n0 < k) || W.any fun w => w.1 == k && (decide (w.2.1 ≤ lo) && decide (hi ≤ w.2.2))) := by
  simp only [ck_okW, fl_and, fl_or, fl_beq, fl_blt, fl_le_eq, fl_lt_eq, fl_ie_eq, fl_any_eq, fl_all_eq, fl_find_eq, fl_lk_eq, fl_nth_eq]
noncomputable def ck_okR (W : List (Nat × Int)) (n0 k : Nat) (j : Int) : Bool := fl_if (Nat.ble (Nat.succ n0) k) true (fl_any W fun w => fl_if (Nat.beq w.1 k) (fl_ie w.2 j) false)
theorem ck_okR_def {W : List (Nat × Int)} {n0 k : Nat} {j : Int} : ck_okR W n0 k j = (decide (n0 < k) || W.any fun w => w.1 == k && decide (w.2 = j)) := by
  simp only [ck_okR, fl_and, fl_or, fl_beq, fl_blt, fl_le_eq, fl_lt_eq, fl_ie_eq, fl_any_eq, fl_all_eq, fl_find_eq, fl_lk_eq, fl_nth_eq]
noncomputable def ck_lc (L : ck_AL) : Nat → ck_AL
  | 0 => L
  | i + 1 => match L[i]? with
    | some (some (.inr (.inl _))) => L.set i none
    | _ => L
noncomputable def ck_lst (L : ck_AL) (j : Nat) (v : ck_A) : ck_AL := match v with
  | .inr (.inl _) => ((ck_lc L j).set j (some v)).set (j + 1) none
  | _ => (ck_lc L j).set j (some v)
/-- the stack without what it says of locals, of the heap -/
noncomputable def ck_sl (AS : ck_AS) : ck_AS := AS.map fun q => (q.1, match q.2 with
  | some (.inl _) => none
  | s => s)
noncomputable def ck_sh (AS : ck_AS) : ck_AS := AS.map fun q => (q.1, match q.2 with
  | some (.inr _) => none
  | s => s)
/-- a stands to b as c says: what of a is left -/
noncomputable def ck_rf (c : ClassFile.Cond) (a b : ck_I) : ck_I := match c with
  | .lt => (a.1, if a.2.1 ≤ b.2.1 - 1 then a.2.1 else b.2.1 - 1, a.2.2)
  | .le => (a.1, if a.2.1 ≤ b.2.1 then a.2.1 else b.2.1, a.2.2)
  | .gt => (if b.1 + 1 ≤ a.1 then a.1 else b.1 + 1, a.2.1, a.2.2)
  | .ge => (if b.1 ≤ a.1 then a.1 else b.1, a.2.1, a.2.2)
  | .eq => (if b.1 ≤ a.1 then a.1 else b.1, if a.2.1 ≤ b.2.1 then a.2.1 else b.2.1, a.2.2)
  | .ne => if b.1 = b.2.1 then (if a.1 = b.1 then (a.1 + 1, a.2.1, a.2.2) else if a.2.1 = b.1 then (a.1, a.2.1 - 1, a.2.2) else a) else a
noncomputable def ck_ng : ClassFile.Cond → ClassFile.Cond
  | .lt => .ge
  | .ge => .lt
  | .gt => .le
  | .le => .gt
  | .eq => .ne
  | .ne => .eq
noncomputable def ck_sw : ClassFile.Cond → ClassFile.Cond
  | .lt => .gt
  | .gt => .lt
  | .le => .ge
  | .ge => .le
  | .eq => .eq
  | .ne => .ne
noncomputable def ck_no (a : ck_I) : Bool := decide (a.2.1 < a.1)
noncomputable def ck_rL (s : ck_S) (a : ck_I) (AL : ck_AL) : ck_AL := match s with
  | some (.inl q) => (match AL[q.1]? with
    | some (some (.inl b)) => AL.set q.1 (some (.inl (if b.1 ≤ a.1 - q.2 then a.1 - q.2 else b.1, if a.2.1 - q.2 ≤ b.2.1 then a.2.1 - q.2 else b.2.1, b.2.2)))
    | _ => AL)
  | _ => AL
noncomputable def ck_rF (s : ck_S) (a a0 : ck_I) (F : ck_F) : ck_F := match s with
  | some (.inr (.inl q)) => (match ck_fi F q.1 q.2.1 q.2.1 with
    | some b => if ¬ (a.1 = a0.1 ∧ a.2.1 = a0.2.1) then (F.1, F.2.1, (q.1, q.2.1, q.2.1, (if b.1 ≤ a.1 - q.2.2 then a.1 - q.2.2 else b.1, if a.2.1 - q.2.2 ≤ b.2.1 then a.2.1 - q.2.2 else b.2.1, b.2.2)) :: F.2.2) else F
    | none => F)
  | some (.inr (.inr q)) => (match ck_fi F q.1 q.2.1 q.2.1, ck_fi F q.2.2.1 q.2.2.2.1 q.2.2.2.1 with
    | some b, some c => if ¬ (a.1 = a0.1 ∧ a.2.1 = a0.2.1) then (F.1, F.2.1, (q.1, q.2.1, q.2.1, (if b.1 ≤ c.1 + a.1 - q.2.2.2.2 then c.1 + a.1 - q.2.2.2.2 else b.1, if c.2.1 + a.2.1 - q.2.2.2.2 ≤ b.2.1 then c.2.1 + a.2.1 - q.2.2.2.2 else b.2.1, b.2.2)) :: (q.2.2.1, q.2.2.2.1, q.2.2.2.1, (if c.1 ≤ b.1 - a.2.1 + q.2.2.2.2 then b.1 - a.2.1 + q.2.2.2.2 else c.1, if b.2.1 - a.1 + q.2.2.2.2 ≤ c.2.1 then b.2.1 - a.1 + q.2.2.2.2 else c.2.1, c.2.2)) :: F.2.2) else F
    | _, _ => F)
  | _ => F
/-- a constant more -/
noncomputable def ck_sm (s : ck_S) (z : Int) : ck_S := match s with
  | some (.inl q) => some (.inl (q.1, q.2 + z))
  | some (.inr (.inl q)) => some (.inr (.inl (q.1, q.2.1, q.2.2 + z)))
  | some (.inr (.inr q)) => some (.inr (.inr (q.1, q.2.1, q.2.2.1, q.2.2.2.1, q.2.2.2.2 + z)))
  | none => none
noncomputable def ck_sb (i : Instr) (a : ck_I) (s : ck_S) (b : ck_I) (t : ck_S) : ck_S := match i with
  | .iadd => if (ck_sg b && ck_in (a.1 + b.1, a.2.1 + b.1, [])) = true then ck_sm s b.1 else if (ck_sg a && ck_in (b.1 + a.1, b.2.1 + a.1, [])) = true then ck_sm t a.1 else none
  | .isub => if (ck_sg b && ck_in (a.1 - b.1, a.2.1 - b.1, [])) = true then ck_sm s (- b.1) else if ck_in (a.1 - b.2.1, a.2.1 - b.1, []) = true then (match s, t with
    | some (.inr (.inl p)), some (.inr (.inl q)) => some (.inr (.inr (p.1, p.2.1, q.1, q.2.1, p.2.2 - q.2.2)))
    | _, _ => none) else none
  | _ => none
/-- a name's number lies between lo and hi: so do all that have the name -/
noncomputable def ck_tg (nm : Nat) (lo hi : Int) (b : ck_I) : ck_I := match b.2.2.find? fun q => q.1 == nm with
  | some q => (if b.1 ≤ lo + q.2 then lo + q.2 else b.1, if hi + q.2 ≤ b.2.1 then hi + q.2 else b.2.1, b.2.2)
  | none => b
noncomputable def ck_tgA (nm : Nat) (lo hi : Int) : ck_A → ck_A
  | .inl a => .inl (ck_tg nm lo hi a)
  | x => x
noncomputable def ck_tgL (nm : Nat) (lo hi : Int) (AL : ck_AL) : ck_AL := AL.map fun a => match a with
  | some b => some (ck_tgA nm lo hi b)
  | none => none
noncomputable def ck_tgF (nm : Nat) (lo hi : Int) (F : ck_F) : ck_F := (F.1, F.2.1, F.2.2.map fun q => (q.1, q.2.1, q.2.2.1, ck_tg nm lo hi q.2.2.2))
noncomputable def ck_ptL (lo hi : Int) : List (Nat × Int) → ck_AL → ck_AL
  | [], AL => AL
  | q :: l, AL => ck_ptL lo hi l (if q.1 < 100 then ck_tgL q.1 (lo - q.2) (hi - q.2) AL else AL)
noncomputable def ck_ptF (lo hi : Int) : List (Nat × Int) → ck_F → ck_F
  | [], F => F
  | q :: l, F => ck_ptF lo hi l (if q.1 < 100 then ck_tgF q.1 (lo - q.2) (hi - q.2) F else F)
noncomputable def ck_eqb (a b : ck_I) : Bool := decide (a.1 = b.1) && decide (a.2.1 = b.2.1)
noncomputable def ck_qL (a a0 : ck_I) (AL : ck_AL) : ck_AL := cond (ck_eqb a a0) AL (ck_ptL a.1 a.2.1 a0.2.2 AL)
noncomputable def ck_qF (a a0 : ck_I) (F : ck_F) : ck_F := cond (ck_eqb a a0) F (ck_ptF a.1 a.2.1 a0.2.2 F)
/-- how far it is: what goes on less where it began -/
noncomputable def ck_lks (O : gm_Or) (s : ck_S) : ck_S := match O.2.2.gh with
  | none => s
  | some g => (match s with
    | some (.inr (.inr q)) => cond (q.1 == g.1 && (q.2.2.1 == g.1 && (decide (q.2.1 = g.2.1) && decide (q.2.2.2.1 = g.2.2)))) (some (.inr (.inl (0, 4, q.2.2.2.2)))) s
    | _ => s)
/-- the one and the other stand to one another as how far it is stands to 0 -/
noncomputable def ck_lkp (O : gm_Or) (F : ck_F) (s t : ck_S) : Option ck_I := match O.2.2.gh with
  | none => none
  | some g => (match s, t with
    | some (.inr (.inl p)), some (.inr (.inl q)) => cond ((p.1 == g.1 && (q.1 == g.1 && (decide (p.2.1 = g.2.1) && decide (q.2.1 = g.2.2)))) && (decide (p.2.2 = 0) && decide (q.2.2 = 0))) (ck_fi F 0 4 4) none
    | _, _ => none)
/-- tags of a number that is more by w -/
noncomputable def ck_ltg (w : ck_I) (z : Int) (t : List (Nat × Int)) : List (Nat × Int) := cond (ck_sg w) (ck_mv t (w.1 + z)) (t.map fun q => (if q.1 < 1000000 then q.1 + 1000000 else q.1, q.2 + (w.1 + z)))
noncomputable def ck_mn (x y : Int) : Int := if x ≤ y then x else y
noncomputable def ck_mx (x y : Int) : Int := if x ≤ y then y else x
/-- a write of one of the two: how far it is then, where it began then, both -/
noncomputable def ck_gp (O : gm_Or) (F : ck_F) (r : Nat) (j : Int) (s : ck_S) (a : ck_I) : Option (ck_I × ck_I × ck_I) := match O.2.2.gh with
  | none => none
  | some g => (match s with
    | some (.inr (.inl q)) => cond (r == g.1 && q.1 == g.1) (match ck_fi F 0 4 4, ck_fi F 0 3 3, ck_fi F 0 5 5, gm_tyr O g.1 g.2.2 g.2.2 with
      | some w, some e, some f, some t => if j = g.2.1 then (if q.2.1 = g.2.1 then some ((w.1 + q.2.2, ck_mn (w.2.1 + q.2.2) (a.2.1 - t.1), ck_mv w.2.2 q.2.2), e, (f.1 + q.2.2, ck_mn (f.2.1 + q.2.2) a.2.1, ck_mv f.2.2 q.2.2)) else if q.2.1 = g.2.2 then some (ck_one q.2.2, e, (e.1 + q.2.2, ck_mn (e.2.1 + q.2.2) a.2.1, ck_mv e.2.2 q.2.2)) else none) else if j = g.2.2 then (if q.2.1 = g.2.1 then some (ck_one (- q.2.2), (f.1 + q.2.2, ck_mn (f.2.1 + q.2.2) a.2.1, ck_mv f.2.2 q.2.2), f) else none) else none
      | _, _, _, _ => none) none
    | _ => none)
noncomputable def ck_gF (F : ck_F) (r : Nat) (j : Int) (a : ck_I) (g : ck_I × ck_I × ck_I) : ck_F := ck_up (ck_up (ck_up (ck_up F r j j a) 0 4 4 g.1) 0 3 3 g.2.1) 0 5 5 g.2.2
/-- how far it is is known: so are both together -/
noncomputable def ck_rE (O : gm_Or) (F : ck_F) : ck_F := match O.2.2.gh with
  | none => F
  | some g => (match ck_fi F 0 3 3, ck_fi F 0 4 4, ck_fi F 0 5 5, ck_rd O F g.1 g.2.1 g.2.1, ck_rd O F g.1 g.2.2 g.2.2 with
    | some e, some w, some f, some p, some b => if 0 ≤ w.1 then (F.1, F.2.1, (0, 5, 5, (ck_mx f.1 (e.1 + w.1), ck_mn f.2.1 (e.2.1 + w.2.1), f.2.2 ++ (ck_ltg w 0 e.2.2).filter fun q => !ck_im f.2.2 q)) :: (g.1, g.2.2, g.2.2, (ck_mx b.1 (p.1 - w.2.1), ck_mn b.2.1 (p.2.1 - w.1), b.2.2)) :: F.2.2) else F
    | _, _, _, _, _ => F)
/-- one way of a branch: x stands to y as c says -/
noncomputable def ck_br (c : ClassFile.Cond) (a : ck_I) (s : ck_S) (b : ck_I) (t : ck_S) (AL : ck_AL) (F : ck_F) (k : ck_AL → ck_F → Bool) : Bool :=
  if (ck_no (ck_rf c a b) || ck_no (ck_rf (ck_sw c) b a)) = true then true
  else k (ck_qL (ck_rf (ck_sw c) b a) b (ck_qL (ck_rf c a b) a (ck_rL t (ck_rf (ck_sw c) b a) (ck_rL s (ck_rf c a b) AL)))) (ck_qF (ck_rf (ck_sw c) b a) b (ck_qF (ck_rf c a b) a (ck_rF t (ck_rf (ck_sw c) b a) b (ck_rF s (ck_rf c a b) a F))))
noncomputable def ck_swk (a : ck_I) (s : ck_S) (AL : ck_AL) (F : ck_F) (pc : Nat) (k : Nat → ck_AL → ck_F → Bool) : List Int → Int → Bool
  | [], _ => true
  | o :: os, v => ck_br .eq a s (ck_one v) none AL F (k (gm_tgt pc o)) && ck_swk a s AL F pc k os (v + 1)
/-- only names below 100: they mean the same from the first to the last -/
noncomputable def ck_tI (a : ck_I) : Bool := fl_all a.2.2 fun q => decide (q.1 < 100) || (decide (1000000 ≤ q.1) && decide (q.1 < 1000100))
theorem ck_tI_def {a : ck_I} : ck_tI a = a.2.2.all fun q => decide (q.1 < 100) || (decide (1000000 ≤ q.1) && decide (q.1 < 1000100)) := by
  unfold ck_tI
  rw [fl_all_eq]
noncomputable def ck_tA : ck_A → Bool
  | .inl a => ck_tI a
  | .inr (.inl a) => ck_tI a
  | _ => true
noncomputable def ck_tF (F : ck_F) : Bool := fl_all F.2.2 fun q => ck_tI q.2.2.2
theorem ck_tF_def {F : ck_F} : ck_tF F = F.2.2.all fun q => ck_tI q.2.2.2 := by
  unfold ck_tF
  rw [fl_all_eq]
noncomputable def ck_leO : (Nat ⊕ Option ck_A) → (Nat ⊕ Option ck_A) → Bool
  | .inl x, .inl y => x == y
  | .inr none, .inr none => true
  | .inr (some a), .inr (some b) => ck_leA a b && ck_tA b
  | _, _ => false
noncomputable def ck_end (O : gm_Or) (outs : List ck_Oc) (how : Nat ⊕ Option ck_A) (n : Nat) (F : ck_F) : Bool := fl_any outs fun oc => ck_leO how oc.1 && (n == oc.2.1 && (ck_leF O F oc.2.2 && ck_tF oc.2.2))
theorem ck_end_def {O : gm_Or} {outs : List ck_Oc} {how : Nat ⊕ Option ck_A} {n : Nat} {F : ck_F} : ck_end O outs how n F = outs.any fun oc => ck_leO how oc.1 && (n == oc.2.1 && (ck_leF O F oc.2.2 && ck_tF oc.2.2)) := by
  unfold ck_end
  rw [fl_any_eq]
/-- a callee's throw: at the handler, or to the end -/
noncomputable def ck_thr (O : gm_Or) (outs : List ck_Oc) (mi pc x n : Nat) (F : ck_F) (k : Nat → Bool) : Bool := match gm_hit (gm_ow mi) pc x false (gm_hh mi) with
  | some (some h) => k h
  | some none => ck_end O outs (.inl x) n F
  | none => false
noncomputable def ck_leAs : List ck_A → List ck_A → Bool
  | [], [] => true
  | a :: as, b :: bs => ck_leA a b && ck_leAs as bs
  | _, _ => false
/-- a fact without what was written -/
noncomputable def ck_cw (w : Nat × Int × Int) (q : Nat × Int × Int × ck_I) : List (Nat × Int × Int × ck_I) := if q.1 = w.1 ∧ w.2.1 ≤ q.2.2.1 ∧ q.2.1 ≤ w.2.2 then (if q.2.1 < w.2.1 then [(q.1, q.2.1, w.2.1 - 1, q.2.2.2)] else []) ++ (if w.2.2 < q.2.2.1 then [(q.1, w.2.2 + 1, q.2.2.1, q.2.2.2)] else []) else [q]
noncomputable def fl_cw (w : Nat × Int × Int) (l : List (Nat × Int × Int × ck_I)) : List (Nat × Int × Int × ck_I) := @List.rec _ (fun _ => List (Nat × Int × Int × ck_I)) [] (fun q _ ih => fl_if (fl_if (Nat.beq q.1 w.1) (fl_if (fl_le w.2.1 q.2.2.1) (fl_le q.2.1 w.2.2) false) false) (ck_cw w q ++ ih) (q :: ih)) l
theorem fl_cw_eq {w : Nat × Int × Int} {l : List (Nat × Int × Int × ck_I)} : fl_cw w l = l.flatMap (ck_cw w) := by
  induction l with
  | nil => rfl
  | cons q l ih =>
    rw [List.flatMap_cons, ← ih]
    show fl_if (fl_if (Nat.beq q.1 w.1) (fl_if (fl_le w.2.1 q.2.2.1) (fl_le q.2.1 w.2.2) false) false) (ck_cw w q ++ fl_cw w l) (q :: fl_cw w l) = _
    rw [fl_and, fl_and, fl_beq, fl_le_eq, fl_le_eq]
    by_cases h : q.1 = w.1 ∧ w.2.1 ≤ q.2.2.1 ∧ q.2.1 ≤ w.2.2
    · rw [show (q.1 == w.1 && (decide (w.2.1 ≤ q.2.2.1) && decide (q.2.1 ≤ w.2.2))) = true by simp [h.1, h.2.1, h.2.2]]; rfl
    · rw [show (q.1 == w.1 && (decide (w.2.1 ≤ q.2.2.1) && decide (q.2.1 ≤ w.2.2))) = false by
        rw [Bool.eq_false_iff]; intro h2; simp only [Bool.and_eq_true, beq_iff_eq, decide_eq_true_eq] at h2; exact h h2]
      show q :: fl_cw w l = ck_cw w q ++ fl_cw w l
      unfold ck_cw
      rw [if_neg h]
      rfl
noncomputable def ck_cws (ws : List (Nat × Int × Int)) : List (Nat × Int × Int × ck_I) → List (Nat × Int × Int × ck_I) := @List.rec _ (fun _ => List (Nat × Int × Int × ck_I) → List (Nat × Int × Int × ck_I)) (fun l => l) (fun w _ ih l => ih (fl_cw w l)) ws
noncomputable def ck_mix (n : Nat) (F : ck_F) (W : List (Nat × Int × Int) × List (Nat × Int)) (G : ck_F) : ck_F :=
  (G.1 ++ F.1, G.2.1 ++ F.2.1.filter (fun q => decide (q.1 ≤ n) && !(W.2.any fun w => w.1 == q.1 && decide (w.2 = q.2.1))), G.2.2 ++ ck_cws W.1 F.2.2)
/-- a value without tags -/
noncomputable def ck_nt (a : ck_I) : Bool := a.2.2.isEmpty
noncomputable def ck_ntA : ck_A → Bool
  | .inl a => ck_nt a
  | .inr (.inl a) => ck_nt a
  | _ => true
/-- a fact at a call: without tags, or the name of its own cell -/
noncomputable def ck_own (O : gm_Or) (q : Nat × Int × Int × ck_I) : Bool := q.2.2.2.2.2.all fun t => decide (q.2.1 = q.2.2.1) && (decide (t.2 = 0) && (decide (t.1 < 1000000) && (match O.2.2.nm.find? fun p => p.1 == t.1 with
  | some p => p.2.1 == q.1 && decide (p.2.2 = q.2.1)
  | none => false)))
noncomputable def ck_cl (G : ck_F) : ck_F := (G.1, G.2.1, G.2.2.map fun q => (q.1, q.2.1, q.2.2.1, (q.2.2.2.1, q.2.2.2.2.1, [])))
noncomputable def ck_pick (O : gm_Or) (n : Nat) (F : ck_F) (as : List ck_A) (l : List ck_Sum) : Option ck_Sum := fl_find l fun S => fl_if (Nat.beq S.2.1 n) (fl_if (ck_leAs as S.2.2.1) (S.2.2.1.all ck_ntA && (ck_leF O F (ck_cl S.2.2.2.1) && fl_all S.2.2.2.1.2.2 (ck_own O))) false) false
theorem ck_pick_def {O : gm_Or} {n : Nat} {F : ck_F} {as : List ck_A} {l : List ck_Sum} : ck_pick O n F as l = l.find? fun S => S.2.1 == n && (ck_leAs as S.2.2.1 && (S.2.2.1.all ck_ntA && (ck_leF O F (ck_cl S.2.2.2.1) && S.2.2.2.1.2.2.all (ck_own O)))) := by
  simp only [ck_pick, fl_and, fl_or, fl_beq, fl_blt, fl_le_eq, fl_lt_eq, fl_ie_eq, fl_any_eq, fl_all_eq, fl_find_eq, fl_lk_eq, fl_nth_eq]
/-- what a tag of the callee says here -/
noncomputable def ck_r1 (O : gm_Or) (F : ck_F) (q : Nat × Int) : List (Nat × Int) := match O.2.2.nm.find? fun p => p.1 == (if q.1 < 1000000 then q.1 else q.1 - 1000000) with
  | some p => (match ck_rd O F p.2.1 p.2.2 p.2.2 with
    | some b => b.2.2.map fun t => (if q.1 < 1000000 then t.1 else if t.1 < 1000000 then t.1 + 1000000 else t.1, t.2 + q.2)
    | none => [])
  | none => []
noncomputable def ck_rlo (O : gm_Or) (F : ck_F) : List (Nat × Int) → Int → Int
  | [], x => x
  | q :: l, x => ck_rlo O F l (match O.2.2.nm.find? fun p => p.1 == (if q.1 < 1000000 then q.1 else q.1 - 1000000) with
    | some p => (match ck_rd O F p.2.1 p.2.2 p.2.2 with
      | some b => if x ≤ b.1 + q.2 then b.1 + q.2 else x
      | none => x)
    | none => x)
noncomputable def ck_rhi (O : gm_Or) (F : ck_F) : List (Nat × Int) → Int → Int
  | [], x => x
  | q :: l, x => ck_rhi O F l (if q.1 < 1000000 then (match O.2.2.nm.find? fun p => p.1 == q.1 with
    | some p => (match ck_rd O F p.2.1 p.2.2 p.2.2 with
      | some b => if b.2.1 + q.2 ≤ x then b.2.1 + q.2 else x
      | none => x)
    | none => x) else x)
noncomputable def ck_rI (O : gm_Or) (F : ck_F) (a : ck_I) : ck_I := match a.2.2 with
  | [] => a
  | _ => (ck_rlo O F a.2.2 a.1, ck_rhi O F a.2.2 a.2.1, a.2.2.flatMap (ck_r1 O F))
noncomputable def ck_rA (O : gm_Or) (F : ck_F) : ck_A → ck_A
  | .inl a => .inl (ck_rI O F a)
  | .inr (.inl a) => .inr (.inl (ck_rI O F a))
  | x => x
noncomputable def ck_rO (O : gm_Or) (F : ck_F) : (Nat ⊕ Option ck_A) → (Nat ⊕ Option ck_A)
  | .inr (some a) => .inr (some (ck_rA O F a))
  | x => x
noncomputable def ck_rG (O : gm_Or) (F G : ck_F) : ck_F := (G.1, G.2.1, G.2.2.map fun q => (q.1, q.2.1, q.2.2.1, ck_rI O F q.2.2.2))
/-- a call -/
noncomputable def ck_call (O : gm_Or) (E : List (Nat × List ck_Sum)) (d n0 : Nat) (W : List (Nat × Int × Int) × List (Nat × Int)) (bc bs n mj : Nat) (F : ck_F) (as : List ck_A) (k : Nat → Nat → (Nat ⊕ Option ck_A) → Nat → ck_F → Bool) : Bool := match fl_lk mj E with
  | none => false
  | some l => match ck_pick O n F as l with
    | none => false
    | some S => (decide (S.1.1 + 1 ≤ d) && (decide (S.1.2.1 ≤ bc) && decide (S.1.2.2 ≤ bs))) && ((fl_all S.2.2.2.2.1.1 (fun w => ck_okW W.1 n0 w.1 w.2.1 w.2.2) && fl_all S.2.2.2.2.1.2 (fun w => ck_okR W.2 n0 w.1 w.2)) && fl_all S.2.2.2.2.2 fun oc => k (bc - S.1.2.1) (bs - S.1.2.2) (ck_rO O F oc.1) oc.2.1 (ck_mix n F S.2.2.2.2.1 (ck_rG O F oc.2.2)))
noncomputable def ck_sum8 (AS : ck_AS) : Bool := decide ((AS.map fun q => if ck_so q.1 = 1 then 2 else 1).sum ≤ 8)
noncomputable def ck_n1 (AS : ck_AS) : Bool := AS.all fun q => !(ck_so q.1 == 1)
/-- what a call leaves on the stack -/
noncomputable def ck_psh (how : Option ck_A) (AS : ck_AS) : ck_AS := match how with
  | some a => (a, none) :: ck_sh AS
  | none => ck_sh AS
/-- how many arguments a call of a method named elsewhere has -/
noncomputable def gm_una (o ix : Nat) : Option Nat := (gm_ul.find? fun q => decide (q.1.1 = o) && decide (q.1.2.1 = ix)).map fun q => gm_na q.2.1
/-- bounds of a quotient -/
noncomputable def ck_dv (a b : ck_I) : ck_I := if (ck_sg a && ck_sg b) = true then ck_one (gm_w (Int.tdiv a.1 b.1)) else if 0 ≤ a.1 ∧ 0 < b.1 then (0, a.2.1, []) else ck_top
/-- a local's number that may be less than 0 or not -/
noncomputable def ck_sgl (a b : ck_I) (s : ck_S) : Bool := match s with
  | some (.inl _) => decide (a.1 < 0) && (decide (0 ≤ a.2.1) && decide (0 < b.1))
  | _ => false
/-- a cell's number that may be less than 0 or not -/
noncomputable def ck_sgn (a : ck_I) (s : ck_S) : Bool := match s with
  | some (.inr (.inl _)) => decide (a.1 < 0) && decide (0 ≤ a.2.1)
  | _ => false
/-- an instruction that does more than load, store and reckon -/
noncomputable def ck_j (O : gm_Or) (lx : Option Nat) (XF : List (Int × Int × ck_I)) (E : List (Nat × List ck_Sum)) (mi d n0 : Nat) (W : List (Nat × Int × Int) × List (Nat × Int)) (outs : List ck_Oc) (bc bs pc : Nat) (AL : ck_AL) (AS : ck_AS) (n : Nat) (F : ck_F) (k : Nat → Nat → Nat → ck_AL → ck_AS → Nat → ck_F → Bool) (i : Instr) : Bool :=
  match i with
  | .ineg => (match AS with
    | (.inl a, _) :: AS' => k bc bs (pc + 1) AL ((.inl (ck_nrm (- a.2.1, - a.1, [])), none) :: AS') n F
    | _ => false)
  | .i2b => (match AS with
    | (.inl a, _) :: AS' => k bc bs (pc + 1) AL ((.inl (if -128 ≤ a.1 ∧ a.2.1 ≤ 127 then a else (-128, 127, [])), none) :: AS') n F
    | _ => false)
  | .i2l => (match AS with
    | (.inl a, _) :: AS' => k bc bs (pc + 1) AL ((.inr (.inl a), none) :: AS') n F
    | _ => false)
  | .l2i => (match AS with
    | (.inr (.inl a), _) :: AS' => k bc bs (pc + 1) AL ((.inl (ck_nrm a), none) :: AS') n F
    | _ => false)
  | .lcmp => (match AS with
    | (.inr (.inl b), _) :: (.inr (.inl a), _) :: AS' => k bc bs (pc + 1) AL ((.inl (if (ck_leI a b && ck_leI b a && (ck_sg a || ck_ex b)) = true then ck_one 0 else if a.2.1 < b.1 then ck_one (-1) else if b.2.1 < a.1 then ck_one 1 else (-1, 1, [])), none) :: AS') n F
    | _ => false)
  | .idiv => (match AS with
    | (.inl b, _) :: (.inl a, s) :: AS' => (decide (0 < b.1) || decide (b.2.1 < 0)) && cond (ck_sgl a b s) (ck_br .lt a s (ck_one 0) none AL F (fun AL F => k bc bs (pc + 1) AL ((.inl (ck_dv (ck_rf .lt a (ck_one 0)) b), none) :: AS') n F) && ck_br .ge a s (ck_one 0) none AL F (fun AL F => k bc bs (pc + 1) AL ((.inl (ck_dv (ck_rf .ge a (ck_one 0)) b), none) :: AS') n F)) (k bc bs (pc + 1) AL ((.inl (ck_dv a b), none) :: AS') n F)
    | _ => false)
  | .irem => (match AS with
    | (.inl b, _) :: (.inl a, _) :: AS' => (decide (0 < b.1) || decide (b.2.1 < 0)) && k bc bs (pc + 1) AL ((.inl (if (ck_sg a && ck_sg b) = true then ck_one (gm_w (Int.tmod a.1 b.1)) else if 0 ≤ a.1 ∧ 0 < b.1 then (0, b.2.1 - 1, []) else ck_top), none) :: AS') n F
    | _ => false)
  | .dup => (match AS with
    | q :: AS' => !(ck_so q.1 == 1) && k bc bs (pc + 1) AL (q :: q :: AS') n F
    | [] => false)
  | .pop => (match AS with
    | q :: AS' => !(ck_so q.1 == 1) && k bc bs (pc + 1) AL AS' n F
    | [] => false)
  | .dup2 => (match AS with
    | q :: p :: AS' => (!(ck_so q.1 == 1) && !(ck_so p.1 == 1)) && k bc bs (pc + 1) AL (q :: p :: q :: p :: AS') n F
    | _ => false)
  | .iinc j z => (match AL[j]? with
    | some (some (.inl a)) => if ck_in (a.1 + z, a.2.1 + z, []) = true then k bc bs (pc + 3) (ck_lst AL j (.inl (a.1 + z, a.2.1 + z, ck_mv a.2.2 z))) (ck_sl AS) n F else k bc bs (pc + 3) (ck_lst AL j (.inl ck_top)) (ck_sl AS) n F
    | _ => false)
  | .goto off => decide (0 ≤ (pc : Int) + off) && k bc bs (gm_tgt pc off) AL AS n F
  | .ifCond c off => (match AS with
    | (.inl a, s) :: AS' => decide (0 ≤ (pc : Int) + off) && (ck_br c a s (ck_one 0) none AL F (fun AL F => k bc bs (gm_tgt pc off) AL AS' n (ck_rE O F)) && ck_br (ck_ng c) a s (ck_one 0) none AL F (fun AL F => k bc bs (pc + 3) AL AS' n (ck_rE O F)))
    | _ => false)
  | .if_icmp c off => (match AS with
    | (.inl b, t) :: (.inl a, s) :: AS' => decide (0 ≤ (pc : Int) + off) && (match ck_lkp O F s t with
      | some w => ck_br c w (some (.inr (.inl (0, 4, 0)))) (ck_one 0) none AL F (fun AL F => k bc bs (gm_tgt pc off) AL AS' n (ck_rE O F)) && ck_br (ck_ng c) w (some (.inr (.inl (0, 4, 0)))) (ck_one 0) none AL F (fun AL F => k bc bs (pc + 3) AL AS' n (ck_rE O F))
      | none => ck_br c a s b t AL F (fun AL F => k bc bs (gm_tgt pc off) AL AS' n (ck_rE O F)) && ck_br (ck_ng c) a s b t AL F (fun AL F => k bc bs (pc + 3) AL AS' n (ck_rE O F)))
    | _ => false)
  | .ifnull off => (match AS with
    | (.inr (.inr (.inl r)), _) :: AS' => (decide (0 ≤ (pc : Int) + off) && decide (r < 100000)) && (if r = 0 then k bc bs (gm_tgt pc off) AL AS' n F else k bc bs (pc + 3) AL AS' n F)
    | _ => false)
  | .ifnonnull off => (match AS with
    | (.inr (.inr (.inl r)), _) :: AS' => (decide (0 ≤ (pc : Int) + off) && decide (r < 100000)) && (if r = 0 then k bc bs (pc + 3) AL AS' n F else k bc bs (gm_tgt pc off) AL AS' n F)
    | _ => false)
  | .tableswitch df lo hi offs => (match AS with
    | (.inl a, s) :: AS' => (decide (((offs.size : Nat) : Int) = hi - lo + 1) && (decide (0 ≤ (pc : Int) + df) && (offs.toList.all (fun o => decide (0 ≤ (pc : Int) + o)) && (decide (-2147483647 ≤ lo) && decide (hi < 2147483647))))) && ((ck_br .lt a s (ck_one lo) none AL F (fun AL F => k bc bs (gm_tgt pc df) AL AS' n F) && ck_br .gt a s (ck_one hi) none AL F (fun AL F => k bc bs (gm_tgt pc df) AL AS' n F)) && ck_swk a s AL F pc (fun q AL F => k bc bs q AL AS' n F) offs.toList lo)
    | _ => false)
  | .getfield ix => (match AS with
    | (.inr (.inr (.inl r)), _) :: AS' => (match ck_kd O F r with
      | some q => (match gm_fld (gm_ow mi) ix (q.1 - 4) with
        | some j => decide (4 ≤ q.1) && (if gm_isr (q.1 - 4) j = true then (match ck_fR O F r j with
            | some v => k bc bs (pc + 3) AL ((.inr (.inr (.inl v)), none) :: AS') n F
            | none => false) else (match ck_fi F r j j with
              | some a => k bc bs (pc + 3) AL ((.inl a, some (.inr (.inl (r, (j : Int), 0)))) :: AS') n F
              | none => (match gm_tyr O r j j with
                | some t => k bc bs (pc + 3) AL ((.inl (t.1, t.2, []), some (.inr (.inl (r, (j : Int), 0)))) :: AS') n (F.1, F.2.1, (r, (j : Int), (j : Int), (t.1, t.2, [])) :: F.2.2)
                | none => k bc bs (pc + 3) AL ((.inl ck_top, none) :: AS') n F)))
        | none => false)
      | none => false)
    | _ => false)
  | .putfield ix => (match AS with
    | (.inl a, s) :: (.inr (.inr (.inl r)), _) :: AS' => (match ck_kd O F r with
      | some q => (match gm_fld (gm_ow mi) ix (q.1 - 4) with
        | some j => (match ck_gp O F r j s a with
          | some g => (decide (4 ≤ q.1) && (gm_may mi (q.1 - 4) j && ((gm_tyv O r j j a.1 a.2.1 && (O.2.2.ty 0).isEmpty) && ((ck_okW W.1 n0 r j j && (ck_okW W.1 n0 0 4 4 && (ck_okW W.1 n0 0 3 3 && ck_okW W.1 n0 0 5 5))) && ((ck_in g.1 && (ck_in g.2.1 && ck_in g.2.2)) && gm_fk (q.1 - 4) j == 0))))) && k bc bs (pc + 3) AL (ck_sh AS') n (ck_gF F r j a g)
          | none => (decide (4 ≤ q.1) && (gm_may mi (q.1 - 4) j && (gm_tyw O r j j a.1 a.2.1 && (ck_okW W.1 n0 r j j && (gm_fk (q.1 - 4) j == 0 || (gm_fk (q.1 - 4) j == 1 && (decide (0 ≤ a.1) && decide (a.2.1 ≤ 1)))))))) && k bc bs (pc + 3) AL (ck_sh AS') n (ck_upT O F r j j a))
        | none => false)
      | none => false)
    | (.inr (.inr (.inl v)), _) :: (.inr (.inr (.inl r)), _) :: AS' => (match ck_kd O F r with
      | some q => (match gm_fld (gm_ow mi) ix (q.1 - 4) with
        | some j => (decide (4 ≤ q.1) && (gm_may mi (q.1 - 4) j && ((O.2.1 r j).isNone && (ck_okR W.2 n0 r j && gm_fk (q.1 - 4) j == 2)))) && k bc bs (pc + 3) AL AS' n (ck_upR F r j v)
        | none => false)
      | none => false)
    | _ => false)
  | .iaload => (match AS with
    | (.inl e, _) :: (.inr (.inr (.inl r)), _) :: AS' => (match ck_kd O F r with
      | some q => (q.1 == 0 && (decide (0 ≤ e.1) && decide (e.2.1 < (q.2 : Int)))) && (match ck_fi F r e.1 e.2.1 with
        | some a => k bc bs (pc + 1) AL ((.inl a, if ck_sg e = true then some (.inr (.inl (r, e.1, 0))) else none) :: AS') n F
        | none => (match gm_tyr O r e.1 e.2.1 with
          | some t => if ck_sg e = true then k bc bs (pc + 1) AL ((.inl (t.1, t.2, []), some (.inr (.inl (r, e.1, 0)))) :: AS') n (F.1, F.2.1, (r, e.1, e.1, (t.1, t.2, [])) :: F.2.2) else k bc bs (pc + 1) AL ((.inl (t.1, t.2, []), none) :: AS') n F
          | none => k bc bs (pc + 1) AL ((.inl ck_top, none) :: AS') n F))
      | none => false)
    | (.inl e, _) :: (.inr (.inr (.inr c)), _) :: AS' => (match lx with
      | some l => (c == 2000 && (decide (0 ≤ e.1) && decide (e.2.1 < (l : Int)))) && (match XF.find? fun q => decide (q.1 ≤ e.1) && decide (e.2.1 ≤ q.2.1) with
        | some q => k bc bs (pc + 1) AL ((.inl q.2.2, none) :: AS') n F
        | none => k bc bs (pc + 1) AL ((.inl ck_top, none) :: AS') n F)
      | none => false)
    | _ => false)
  | .baload => (match AS with
    | (.inl e, _) :: (.inr (.inr (.inl r)), _) :: AS' => (match ck_kd O F r with
      | some q => (q.1 == 1 && (decide (0 ≤ e.1) && decide (e.2.1 < (q.2 : Int)))) && (match ck_fi F r e.1 e.2.1 with
        | some a => k bc bs (pc + 1) AL ((.inl a, if ck_sg e = true then some (.inr (.inl (r, e.1, 0))) else none) :: AS') n F
        | none => (match gm_tyr O r e.1 e.2.1 with
          | some t => if ck_sg e = true then k bc bs (pc + 1) AL ((.inl (t.1, t.2, []), some (.inr (.inl (r, e.1, 0)))) :: AS') n (F.1, F.2.1, (r, e.1, e.1, (t.1, t.2, [])) :: F.2.2) else k bc bs (pc + 1) AL ((.inl (t.1, t.2, []), none) :: AS') n F
          | none => k bc bs (pc + 1) AL ((.inl ck_top, none) :: AS') n F))
      | none => false)
    | _ => false)
  | .laload => (match AS with
    | (.inl e, _) :: (.inr (.inr (.inl r)), _) :: AS' => (match ck_kd O F r with
      | some q => (q.1 == 2 && (decide (0 ≤ e.1) && decide (e.2.1 < (q.2 : Int)))) && (match ck_fi F r e.1 e.2.1 with
        | some a => k bc bs (pc + 1) AL ((.inr (.inl a), none) :: AS') n F
        | none => k bc bs (pc + 1) AL ((.inr (.inl ck_tp6), none) :: AS') n F)
      | none => false)
    | _ => false)
  | .aaload => (match AS with
    | (.inl e, _) :: (.inr (.inr (.inl r)), _) :: AS' => (match ck_kd O F r with
      | some q => (q.1 == 3 && (decide (0 ≤ e.1) && (decide (e.2.1 < (q.2 : Int)) && decide (e.2.1 < e.1 + 20)))) && (List.range (e.2.1 + 1 - e.1).toNat).all fun (i : Nat) => (match ck_fR O F r (e.1 + (i : Int)) with
        | some v => k bc bs (pc + 1) AL ((.inr (.inr (.inl v)), none) :: AS') n F
        | none => false)
      | none => false)
    | _ => false)
  | .iastore => (match AS with
    | (.inl a, _) :: (.inl e, _) :: (.inr (.inr (.inl r)), _) :: AS' => (match ck_kd O F r with
      | some q => (q.1 == 0 && (decide (0 ≤ e.1) && (decide (e.2.1 < (q.2 : Int)) && (ck_okW W.1 n0 r e.1 e.2.1 && gm_tyw O r e.1 e.2.1 a.1 a.2.1)))) && k bc bs (pc + 1) AL (ck_sh AS') n (ck_upT O F r e.1 e.2.1 a)
      | none => false)
    | _ => false)
  | .bastore => (match AS with
    | (.inl a, _) :: (.inl e, _) :: (.inr (.inr (.inl r)), _) :: AS' => (match ck_kd O F r with
      | some q => (q.1 == 1 && (decide (0 ≤ e.1) && (decide (e.2.1 < (q.2 : Int)) && (ck_okW W.1 n0 r e.1 e.2.1 && (if -128 ≤ a.1 ∧ a.2.1 ≤ 127 then gm_tyw O r e.1 e.2.1 a.1 a.2.1 else gm_tyw O r e.1 e.2.1 (-128) 127))))) && k bc bs (pc + 1) AL (ck_sh AS') n (ck_upT O F r e.1 e.2.1 (if -128 ≤ a.1 ∧ a.2.1 ≤ 127 then a else (-128, 127, [])))
      | none => false)
    | _ => false)
  | .lastore => (match AS with
    | (.inr (.inl a), _) :: (.inl e, _) :: (.inr (.inr (.inl r)), _) :: AS' => (match ck_kd O F r with
      | some q => (q.1 == 2 && (decide (0 ≤ e.1) && (decide (e.2.1 < (q.2 : Int)) && (ck_okW W.1 n0 r e.1 e.2.1 && ((O.2.2.ty r).isEmpty && (O.2.2.fp r).isEmpty))))) && (if ck_in a = true then k bc bs (pc + 1) AL (ck_sh AS') n (ck_up F r e.1 e.2.1 a) else k bc bs (pc + 1) AL (ck_sh AS') n (F.1, F.2.1, F.2.2.filter fun p => !(p.1 == r)))
      | none => false)
    | _ => false)
  | .aastore => (match AS with
    | (.inr (.inr (.inl v)), _) :: (.inl e, _) :: (.inr (.inr (.inl r)), _) :: AS' => (match ck_kd O F r, ck_kd O F v with
      | some q, some p => (q.1 == 3 && (p.1 == 5 && (ck_sg e && (decide (0 ≤ e.1) && (decide (e.1 < (q.2 : Int)) && ((O.2.1 r e.1).isNone && ck_okR W.2 n0 r e.1)))))) && k bc bs (pc + 1) AL AS' n (ck_upR F r e.1 v)
      | _, _ => false)
    | _ => false)
  | .arraylength => (match AS with
    | (.inr (.inr (.inl r)), _) :: AS' => (match ck_kd O F r with
      | some q => (decide (q.1 ≤ 3) && ck_cvk (gm_vi (q.2 : Int))) && k bc bs (pc + 1) AL ((.inl (ck_one q.2), none) :: AS') n F
      | none => false)
    | (.inr (.inr (.inr c)), _) :: AS' => (match lx with
      | some l => (c == 2000 && ck_cvk (gm_vi (l : Int))) && k bc bs (pc + 1) AL ((.inl (ck_one l), none) :: AS') n F
      | none => false)
    | _ => false)
  | .new ix => (match gm_new (gm_ow mi) ix with
    | some ci => ((decide (1 ≤ bc) && decide (gm_nf ci ≤ bs)) && decide (n + 1 < 100000)) && k (bc - 1) (bs - gm_nf ci) (pc + 3) AL ((.inr (.inr (.inl (n + 1))), none) :: ck_sh AS) (n + 1) ((n + 1, ci + 4, 0) :: F.1, F.2.1, ((List.range (gm_nf ci)).map fun (j : Nat) => (n + 1, (j : Int), (j : Int), ck_one 0)) ++ F.2.2)
    | none => (match gm_isx mi pc ix with
      | some x => ((gm_hh mi).isEmpty && (decide (6 ≤ d) && (ck_sum8 AS && (decide (1 ≤ bc) && decide (6 ≤ bs))))) && ck_end O outs (.inl x) n F
      | none => false))
  | .newarray at0 => (match AS, (match at0 with | .int => some 0 | .byte => some 1 | .long => some 2 | _ => none : Option Nat) with
    | (.inl e, _) :: AS', some kd => (ck_sg e && (decide (0 ≤ e.1) && (decide (e.1 < 60000000) && (decide (1 ≤ bc) && (decide (e.1.toNat ≤ bs) && decide (n + 1 < 100000)))))) && k (bc - 1) (bs - e.1.toNat) (pc + 2) AL ((.inr (.inr (.inl (n + 1))), none) :: ck_sh AS') (n + 1) ((n + 1, kd, e.1.toNat) :: F.1, F.2.1, (n + 1, 0, e.1 - 1, ck_one 0) :: F.2.2)
    | _, _ => false)
  | .anewarray ix => (match AS with
    | (.inl e, _) :: AS' => (decide (gm_new (gm_ow mi) ix = some 1) && (ck_sg e && (decide (0 ≤ e.1) && (decide (e.1 < 60000000) && (decide (1 ≤ bc) && (decide (e.1.toNat ≤ bs) && decide (n + 1 < 100000))))))) && k (bc - 1) (bs - e.1.toNat) (pc + 3) AL ((.inr (.inr (.inl (n + 1))), none) :: ck_sh AS') (n + 1) ((n + 1, 3, e.1.toNat) :: F.1, F.2.1, F.2.2)
    | _ => false)
  | .ldc ix => (match gm_ild (gm_ow mi) ix with
    | some q => (q.2 == 0 && ck_cvk (gm_vi q.1)) && k bc bs (pc + 2) AL ((.inl (ck_one q.1), none) :: AS) n F
    | none => (match gm_sld (gm_ow mi) ix with
      | some id => k bc bs (pc + 2) AL ((.inr (.inr (.inr id)), none) :: AS) n F
      | none => false))
  | .ldc_w ix => (match gm_ild (gm_ow mi) ix with
    | some q => (q.2 == 0 && ck_cvk (gm_vi q.1)) && k bc bs (pc + 3) AL ((.inl (ck_one q.1), none) :: AS) n F
    | none => (match gm_sld (gm_ow mi) ix with
      | some id => k bc bs (pc + 3) AL ((.inr (.inr (.inr id)), none) :: AS) n F
      | none => false))
  | .ldc2_w ix => (match gm_ild (gm_ow mi) ix with
    | some q => (q.2 == 1 && ck_cvk (gm_vl q.1)) && k bc bs (pc + 3) AL ((.inr (.inl (ck_one q.1)), none) :: AS) n F
    | none => false)
  | .invokestatic ix => (match gm_cal (gm_ow mi) ix with
    | some q => if q.1 = 5 then ((gm_hh mi).isEmpty && (!(gm_hh q.2).isEmpty && (decide (gm_ow q.2 ≠ gm_mxi) && (decide ((AS.take (gm_na q.2)).length = gm_na q.2) && (ck_n1 (AS.take (gm_na q.2)) && (decide (gm_na q.2 ≤ gm_ml q.2) && ck_sum8 (AS.drop (gm_na q.2)))))))) && ck_call O E d n0 W bc bs n q.2 F ((AS.take (gm_na q.2)).reverse.map Prod.fst) (fun bc bs how n F => match how with
          | .inl x => ck_thr O outs mi pc x n F (fun h => k bc bs h AL [(.inr (.inr (.inr 4000)), none)] n F)
          | .inr u => k bc bs (pc + 3) AL (ck_psh u (AS.drop (gm_na q.2))) n F) else (q.1 == 2 && decide (1 ≤ d)) && (if q.2 = gm_jmax then (match AS with
        | (.inl b, _) :: (.inl a, _) :: AS' => ck_sum8 AS' && k bc bs (pc + 3) AL ((.inl (if a.1 ≤ b.1 then b.1 else a.1, if a.2.1 ≤ b.2.1 then b.2.1 else a.2.1, []), none) :: AS') n F
        | _ => false) else if q.2 = gm_jmin then (match AS with
        | (.inl b, _) :: (.inl a, _) :: AS' => ck_sum8 AS' && k bc bs (pc + 3) AL ((.inl (if a.1 ≤ b.1 then a.1 else b.1, if a.2.1 ≤ b.2.1 then a.2.1 else b.2.1, []), none) :: AS') n F
        | _ => false) else ((gm_hh mi).isEmpty && (decide (gm_ow q.2 ≠ gm_mxi) && (decide ((AS.take (gm_na q.2)).length = gm_na q.2) && (ck_n1 (AS.take (gm_na q.2)) && (decide (gm_na q.2 ≤ gm_ml q.2) && ck_sum8 (AS.drop (gm_na q.2))))))) && ck_call O E d n0 W bc bs n q.2 F ((AS.take (gm_na q.2)).reverse.map Prod.fst) (fun bc bs how n F => match how with
          | .inl x => ck_thr O outs mi pc x n F (fun h => k bc bs h AL [(.inr (.inr (.inr 4000)), none)] n F)
          | .inr u => k bc bs (pc + 3) AL (ck_psh u (AS.drop (gm_na q.2))) n F))
    | none => gm_ac (gm_ow mi) ix && (match AS with
      | (.inl m, _) :: (.inl dp, _) :: (.inr (.inr (.inl k2)), _) :: (.inl sp, _) :: (.inr (.inr (.inl k1)), _) :: AS' => (match ck_kd O F k1, ck_kd O F k2 with
        | some q1, some q2 => (q1.1 == 0 && (q2.1 == 0 && (decide (0 ≤ sp.1) && (decide (0 ≤ dp.1) && (decide (0 ≤ m.1) && (decide (sp.2.1 + m.2.1 ≤ (q1.2 : Int)) && (decide (dp.2.1 + m.2.1 ≤ (q2.2 : Int)) && (ck_okW W.1 n0 k2 dp.1 (dp.2.1 + m.2.1 - 1) && (ck_sum8 AS' && (decide (1 ≤ d) && (match ck_rd O F k1 sp.1 (sp.2.1 + m.2.1 - 1) with | some a => gm_tyw O k2 dp.1 (dp.2.1 + m.2.1 - 1) a.1 a.2.1 | none => ((O.2.2.ty k2).isEmpty && (O.2.2.fp k2).isEmpty)))))))))))) && k bc bs (pc + 3) AL (ck_sh AS') n (F.1, F.2.1, ck_cws [(k2, dp.1, dp.2.1 + m.2.1 - 1)] F.2.2)
        | _, _ => false)
      | _ => false))
  | .invokevirtual ix => (match gm_cal (gm_ow mi) ix with
    | some q => if q.2 = 82 then (match AS with
        | (.inr (.inr (.inr id)), _) :: AS' => (q.1 == 0 && ((gm_hh mi).isEmpty && (decide (id < gm_sl.length) && (ck_sum8 AS' && decide (2 ≤ d))))) && k bc bs (pc + 3) AL ((.inl (ck_one (gm_slen id)), none) :: AS') n F
        | _ => false) else if q.2 = 84 then (match AS with
        | (.inl e, _) :: (.inr (.inr (.inr id)), _) :: AS' => (q.1 == 0 && ((gm_hh mi).isEmpty && (decide (id < gm_sl.length) && (ck_sum8 AS' && (decide (4 ≤ d) && (decide (0 ≤ e.1) && decide (e.2.1 < (gm_slen id : Int)))))))) && k bc bs (pc + 3) AL ((.inl (0, 127, []), none) :: AS') n F
        | _ => false) else (q.1 == 0 && (decide (gm_ow q.2 ≠ gm_mxi) && (decide (gm_cio q.2 < 12) && (decide ((AS.take (gm_na q.2)).length = gm_na q.2) && (ck_n1 (AS.take (gm_na q.2)) && decide (gm_na q.2 + 1 ≤ gm_ml q.2)))))) && (match AS.drop (gm_na q.2) with
      | (.inr (.inr (.inl r)), _) :: AS' => (ck_sum8 AS' && (match ck_kd O F r with
          | some p => p.1 == gm_cio q.2 + 4
          | none => false)) && ck_call O E d n0 W bc bs n q.2 F ((.inr (.inr (.inl r))) :: (AS.take (gm_na q.2)).reverse.map Prod.fst) (fun bc bs how n F => match how with
          | .inl x => ck_thr O outs mi pc x n F (fun h => k bc bs h AL [(.inr (.inr (.inr 4000)), none)] n F)
          | .inr u => k bc bs (pc + 3) AL (ck_psh u AS') n F)
      | _ => false)
    | none => (match gm_una (gm_ow mi) ix with
      | some na => (match AS.drop na with
        | (.inr (.inr (.inl r)), _) :: AS' => (match ck_kd O F r with
          | some p => (match gm_up (gm_ow mi) ix (p.1 - 4) with
            | some mj => ((gm_hh mi).isEmpty && (decide (4 ≤ p.1) && (decide ((AS.take na).length = na) && (decide (gm_na mj = na) && (ck_n1 (AS.take na) && (decide (na + 1 ≤ gm_ml mj) && ck_sum8 AS')))))) && ck_call O E d n0 W bc bs n mj F ((.inr (.inr (.inl r))) :: (AS.take na).reverse.map Prod.fst) (fun bc bs how n F => match how with
              | .inl x => ck_thr O outs mi pc x n F (fun h => k bc bs h AL [(.inr (.inr (.inr 4000)), none)] n F)
              | .inr u => k bc bs (pc + 3) AL (ck_psh u AS') n F)
            | none => false)
          | none => false)
        | _ => false)
      | none => false))
  | .invokespecial ix => if gm_oi (gm_ow mi) ix = true then (match AS with
      | (.inr (.inr (.inl r)), _) :: AS' => (ck_sum8 AS' && (decide (1 ≤ d) && (decide (1 ≤ r) && decide (r ≤ n)))) && k bc bs (pc + 3) AL AS' n F
      | _ => false) else (match gm_cal (gm_ow mi) ix with
    | some q => ((gm_hh mi).isEmpty && ((q.1 == 1 || q.1 == 3) && (decide (gm_ow q.2 ≠ gm_mxi) && (decide ((AS.take (gm_na q.2)).length = gm_na q.2) && (ck_n1 (AS.take (gm_na q.2)) && decide (gm_na q.2 + 1 ≤ gm_ml q.2)))))) && (match AS.drop (gm_na q.2) with
      | (.inr (.inr (.inl r)), _) :: AS' => (ck_sum8 AS' && (decide (1 ≤ r) && decide (r ≤ n))) && ck_call O E d n0 W bc bs n q.2 F ((.inr (.inr (.inl r))) :: (AS.take (gm_na q.2)).reverse.map Prod.fst) (fun bc bs how n F => match how with
          | .inl x => ck_thr O outs mi pc x n F (fun h => k bc bs h AL [(.inr (.inr (.inr 4000)), none)] n F)
          | .inr u => k bc bs (pc + 3) AL (ck_psh u AS') n F)
      | _ => false)
    | none => false)
  | .ireturn => (match AS with
    | (.inl a, s) :: [] => (match gm_rt mi with
      | some .int => cond (ck_sgn a s) (ck_br .lt a s (ck_one 0) none AL F (fun _ F => ck_end O outs (.inr (some (.inl (ck_rf .lt a (ck_one 0))))) n F) && ck_br .ge a s (ck_one 0) none AL F (fun _ F => ck_end O outs (.inr (some (.inl (ck_rf .ge a (ck_one 0))))) n F)) (ck_end O outs (.inr (some (.inl a))) n F)
      | some .boolean => (decide (0 ≤ a.1) && decide (a.2.1 ≤ 1)) && ck_end O outs (.inr (some (.inl a))) n F
      | _ => false)
    | _ => false)
  | .return_ => (match AS with
    | [] => (gm_rt mi).isNone && ck_end O outs (.inr none) n F
    | _ => false)
  | .areturn => (match AS with
    | (.inr (.inr (.inl r)), _) :: [] => (match gm_rt mi with
      | some (.object _) => ck_end O outs (.inr (some (.inr (.inr (.inl r))))) n F
      | some (.array _) => ck_end O outs (.inr (some (.inr (.inr (.inl r))))) n F
      | _ => false)
    | _ => false)
  | _ => false
/-- a few numbers times a constant: number by number -/
noncomputable def ck_fk (i : Instr) (a b : ck_I) : Bool := match i with
  | .imul => ck_sg b && (decide (1 < b.1) && (decide (a.1 < a.2.1) && decide (a.2.1 < a.1 + 24)))
  | _ => false
/-- one instruction -/
noncomputable def ck_i (O : gm_Or) (lx : Option Nat) (XF : List (Int × Int × ck_I)) (E : List (Nat × List ck_Sum)) (mi d n0 : Nat) (W : List (Nat × Int × Int) × List (Nat × Int)) (outs : List ck_Oc) (bc bs pc : Nat) (AL : ck_AL) (AS : ck_AS) (n : Nat) (F : ck_F) (k : Nat → Nat → Nat → ck_AL → ck_AS → Nat → ck_F → Bool) (i : Instr) : Bool :=
  match gm_const i with
  | some v => ck_cvk v && k bc bs (pc + gm_len i) AL ((ck_cv v, none) :: AS) n F
  | none => match gm_load i with
  | some (sr, j) => (match AL[j]? with
    | some (some a) => (ck_so a == sr) && k bc bs (pc + gm_len i) AL ((a, some (.inl (j, 0))) :: AS) n F
    | _ => false)
  | none => match gm_stor i with
  | some (sr, j) => (match AS with
    | q :: AS' => ((ck_so q.1 == sr) && decide (j + (if sr = 1 then 1 else 0) < AL.length)) && k bc bs (pc + gm_len i) (ck_lst AL j q.1) (ck_sl AS') n F
    | [] => false)
  | none => match gm_bin i with
  | some f => (match AS with
    | (.inl b, t) :: (.inl a, s) :: AS' => cond (ck_fk i a b) ((List.range (a.2.1 + 1 - a.1).toNat).all fun (q : Nat) => k bc bs (pc + gm_len i) (ck_qL (a.1 + (q : Int), a.1 + (q : Int), []) a AL) ((.inl (ck_one (gm_w (f (a.1 + (q : Int)) b.1))), none) :: AS') n (ck_qF (a.1 + (q : Int), a.1 + (q : Int), []) a F)) (cond (ck_fk i b a) ((List.range (b.2.1 + 1 - b.1).toNat).all fun (q : Nat) => k bc bs (pc + gm_len i) (ck_qL (b.1 + (q : Int), b.1 + (q : Int), []) b AL) ((.inl (ck_one (gm_w (f a.1 (b.1 + (q : Int))))), none) :: AS') n (ck_qF (b.1 + (q : Int), b.1 + (q : Int), []) b F)) (k bc bs (pc + gm_len i) AL ((.inl (ck_bo i f a b), ck_lks O (ck_sb i a s b t)) :: AS') n F))
    | _ => false)
  | none => match gm_lbin i with
  | some _ => (match AS with
    | (.inr (.inl _), _) :: (.inr (.inl _), _) :: AS' => k bc bs (pc + gm_len i) AL ((.inr (.inl ck_tp6), none) :: AS') n F
    | _ => false)
  | none => match gm_lsh i with
  | some _ => (match AS with
    | (.inl _, _) :: (.inr (.inl _), _) :: AS' => k bc bs (pc + gm_len i) AL ((.inr (.inl ck_tp6), none) :: AS') n F
    | _ => false)
  | none => ck_j O lx XF E mi d n0 W outs bc bs pc AL AS n F k i
/-- one instruction by its own row -/
abbrev ck_Fn : Type := gm_Or → Option Nat → List (Int × Int × ck_I) → List (Nat × List ck_Sum) → Nat → Nat → Nat → List (Nat × Int × Int) × List (Nat × Int) → List ck_Oc → Nat → Nat → Nat → ck_AL → ck_AS → Nat → ck_F → (Nat → Nat → Nat → ck_AL → ck_AS → Nat → ck_F → Bool) → Bool
noncomputable def ck_hc (len : Nat) (v : gm_V) (O : gm_Or) (lx : Option Nat) (XF : List (Int × Int × ck_I)) (E : List (Nat × List ck_Sum)) (mi d n0 : Nat) (W : List (Nat × Int × Int) × List (Nat × Int)) (outs : List ck_Oc) (bc bs pc : Nat) (AL : ck_AL) (AS : ck_AS) (n : Nat) (F : ck_F) (k : Nat → Nat → Nat → ck_AL → ck_AS → Nat → ck_F → Bool) : Bool := ck_cvk v && k bc bs (pc + len) AL ((ck_cv v, none) :: AS) n F
noncomputable def ck_hl (len sr j : Nat) (O : gm_Or) (lx : Option Nat) (XF : List (Int × Int × ck_I)) (E : List (Nat × List ck_Sum)) (mi d n0 : Nat) (W : List (Nat × Int × Int) × List (Nat × Int)) (outs : List ck_Oc) (bc bs pc : Nat) (AL : ck_AL) (AS : ck_AS) (n : Nat) (F : ck_F) (k : Nat → Nat → Nat → ck_AL → ck_AS → Nat → ck_F → Bool) : Bool := match AL[j]? with
    | some (some a) => (ck_so a == sr) && k bc bs (pc + len) AL ((a, some (.inl (j, 0))) :: AS) n F
    | _ => false
noncomputable def ck_hs (len sr j : Nat) (O : gm_Or) (lx : Option Nat) (XF : List (Int × Int × ck_I)) (E : List (Nat × List ck_Sum)) (mi d n0 : Nat) (W : List (Nat × Int × Int) × List (Nat × Int)) (outs : List ck_Oc) (bc bs pc : Nat) (AL : ck_AL) (AS : ck_AS) (n : Nat) (F : ck_F) (k : Nat → Nat → Nat → ck_AL → ck_AS → Nat → ck_F → Bool) : Bool := match AS with
    | q :: AS' => ((ck_so q.1 == sr) && decide (j + (if sr = 1 then 1 else 0) < AL.length)) && k bc bs (pc + len) (ck_lst AL j q.1) (ck_sl AS') n F
    | [] => false
noncomputable def ck_b2 (g : ck_I → ck_I → ck_I) (f : Int → Int → Int) (a b : ck_I) : ck_I := if (ck_sg a && ck_sg b) = true then ck_one (gm_w (f a.1 b.1)) else ck_nrm (g a b)
noncomputable def ck_hb (sb : ck_I → ck_S → ck_I → ck_S → ck_S) (g : ck_I → ck_I → ck_I) (f : Int → Int → Int) (O : gm_Or) (lx : Option Nat) (XF : List (Int × Int × ck_I)) (E : List (Nat × List ck_Sum)) (mi d n0 : Nat) (W : List (Nat × Int × Int) × List (Nat × Int)) (outs : List ck_Oc) (bc bs pc : Nat) (AL : ck_AL) (AS : ck_AS) (n : Nat) (F : ck_F) (k : Nat → Nat → Nat → ck_AL → ck_AS → Nat → ck_F → Bool) : Bool := match AS with
    | (.inl b, t) :: (.inl a, s) :: AS' => k bc bs (pc + 1) AL ((.inl (ck_b2 g f a b), ck_lks O (sb a s b t)) :: AS') n F
    | _ => false
noncomputable def ck_hlb (O : gm_Or) (lx : Option Nat) (XF : List (Int × Int × ck_I)) (E : List (Nat × List ck_Sum)) (mi d n0 : Nat) (W : List (Nat × Int × Int) × List (Nat × Int)) (outs : List ck_Oc) (bc bs pc : Nat) (AL : ck_AL) (AS : ck_AS) (n : Nat) (F : ck_F) (k : Nat → Nat → Nat → ck_AL → ck_AS → Nat → ck_F → Bool) : Bool := match AS with
    | (.inr (.inl _), _) :: (.inr (.inl _), _) :: AS' => k bc bs (pc + 1) AL ((.inr (.inl ck_tp6), none) :: AS') n F
    | _ => false
noncomputable def ck_hls (O : gm_Or) (lx : Option Nat) (XF : List (Int × Int × ck_I)) (E : List (Nat × List ck_Sum)) (mi d n0 : Nat) (W : List (Nat × Int × Int) × List (Nat × Int)) (outs : List ck_Oc) (bc bs pc : Nat) (AL : ck_AL) (AS : ck_AS) (n : Nat) (F : ck_F) (k : Nat → Nat → Nat → ck_AL → ck_AS → Nat → ck_F → Bool) : Bool := match AS with
    | (.inl _, _) :: (.inr (.inl _), _) :: AS' => k bc bs (pc + 1) AL ((.inr (.inl ck_tp6), none) :: AS') n F
    | _ => false
noncomputable def ck_h_ineg  (O : gm_Or) (lx : Option Nat) (XF : List (Int × Int × ck_I)) (E : List (Nat × List ck_Sum)) (mi d n0 : Nat) (W : List (Nat × Int × Int) × List (Nat × Int)) (outs : List ck_Oc) (bc bs pc : Nat) (AL : ck_AL) (AS : ck_AS) (n : Nat) (F : ck_F) (k : Nat → Nat → Nat → ck_AL → ck_AS → Nat → ck_F → Bool) : Bool := (match AS with
    | (.inl a, _) :: AS' => k bc bs (pc + 1) AL ((.inl (ck_nrm (- a.2.1, - a.1, [])), none) :: AS') n F
    | _ => false)
noncomputable def ck_h_i2b  (O : gm_Or) (lx : Option Nat) (XF : List (Int × Int × ck_I)) (E : List (Nat × List ck_Sum)) (mi d n0 : Nat) (W : List (Nat × Int × Int) × List (Nat × Int)) (outs : List ck_Oc) (bc bs pc : Nat) (AL : ck_AL) (AS : ck_AS) (n : Nat) (F : ck_F) (k : Nat → Nat → Nat → ck_AL → ck_AS → Nat → ck_F → Bool) : Bool := (match AS with
    | (.inl a, _) :: AS' => k bc bs (pc + 1) AL ((.inl (if -128 ≤ a.1 ∧ a.2.1 ≤ 127 then a else (-128, 127, [])), none) :: AS') n F
    | _ => false)
noncomputable def ck_h_i2l  (O : gm_Or) (lx : Option Nat) (XF : List (Int × Int × ck_I)) (E : List (Nat × List ck_Sum)) (mi d n0 : Nat) (W : List (Nat × Int × Int) × List (Nat × Int)) (outs : List ck_Oc) (bc bs pc : Nat) (AL : ck_AL) (AS : ck_AS) (n : Nat) (F : ck_F) (k : Nat → Nat → Nat → ck_AL → ck_AS → Nat → ck_F → Bool) : Bool := (match AS with
    | (.inl a, _) :: AS' => k bc bs (pc + 1) AL ((.inr (.inl a), none) :: AS') n F
    | _ => false)
noncomputable def ck_h_l2i  (O : gm_Or) (lx : Option Nat) (XF : List (Int × Int × ck_I)) (E : List (Nat × List ck_Sum)) (mi d n0 : Nat) (W : List (Nat × Int × Int) × List (Nat × Int)) (outs : List ck_Oc) (bc bs pc : Nat) (AL : ck_AL) (AS : ck_AS) (n : Nat) (F : ck_F) (k : Nat → Nat → Nat → ck_AL → ck_AS → Nat → ck_F → Bool) : Bool := (match AS with
    | (.inr (.inl a), _) :: AS' => k bc bs (pc + 1) AL ((.inl (ck_nrm a), none) :: AS') n F
    | _ => false)
noncomputable def ck_h_lcmp  (O : gm_Or) (lx : Option Nat) (XF : List (Int × Int × ck_I)) (E : List (Nat × List ck_Sum)) (mi d n0 : Nat) (W : List (Nat × Int × Int) × List (Nat × Int)) (outs : List ck_Oc) (bc bs pc : Nat) (AL : ck_AL) (AS : ck_AS) (n : Nat) (F : ck_F) (k : Nat → Nat → Nat → ck_AL → ck_AS → Nat → ck_F → Bool) : Bool := (match AS with
    | (.inr (.inl b), _) :: (.inr (.inl a), _) :: AS' => k bc bs (pc + 1) AL ((.inl (if (ck_leI a b && ck_leI b a && (ck_sg a || ck_ex b)) = true then ck_one 0 else if a.2.1 < b.1 then ck_one (-1) else if b.2.1 < a.1 then ck_one 1 else (-1, 1, [])), none) :: AS') n F
    | _ => false)
noncomputable def ck_h_idiv  (O : gm_Or) (lx : Option Nat) (XF : List (Int × Int × ck_I)) (E : List (Nat × List ck_Sum)) (mi d n0 : Nat) (W : List (Nat × Int × Int) × List (Nat × Int)) (outs : List ck_Oc) (bc bs pc : Nat) (AL : ck_AL) (AS : ck_AS) (n : Nat) (F : ck_F) (k : Nat → Nat → Nat → ck_AL → ck_AS → Nat → ck_F → Bool) : Bool := (match AS with
    | (.inl b, _) :: (.inl a, s) :: AS' => (decide (0 < b.1) || decide (b.2.1 < 0)) && cond (ck_sgl a b s) (ck_br .lt a s (ck_one 0) none AL F (fun AL F => k bc bs (pc + 1) AL ((.inl (ck_dv (ck_rf .lt a (ck_one 0)) b), none) :: AS') n F) && ck_br .ge a s (ck_one 0) none AL F (fun AL F => k bc bs (pc + 1) AL ((.inl (ck_dv (ck_rf .ge a (ck_one 0)) b), none) :: AS') n F)) (k bc bs (pc + 1) AL ((.inl (ck_dv a b), none) :: AS') n F)
    | _ => false)
noncomputable def ck_h_irem  (O : gm_Or) (lx : Option Nat) (XF : List (Int × Int × ck_I)) (E : List (Nat × List ck_Sum)) (mi d n0 : Nat) (W : List (Nat × Int × Int) × List (Nat × Int)) (outs : List ck_Oc) (bc bs pc : Nat) (AL : ck_AL) (AS : ck_AS) (n : Nat) (F : ck_F) (k : Nat → Nat → Nat → ck_AL → ck_AS → Nat → ck_F → Bool) : Bool := (match AS with
    | (.inl b, _) :: (.inl a, _) :: AS' => (decide (0 < b.1) || decide (b.2.1 < 0)) && k bc bs (pc + 1) AL ((.inl (if (ck_sg a && ck_sg b) = true then ck_one (gm_w (Int.tmod a.1 b.1)) else if 0 ≤ a.1 ∧ 0 < b.1 then (0, b.2.1 - 1, []) else ck_top), none) :: AS') n F
    | _ => false)
noncomputable def ck_h_dup  (O : gm_Or) (lx : Option Nat) (XF : List (Int × Int × ck_I)) (E : List (Nat × List ck_Sum)) (mi d n0 : Nat) (W : List (Nat × Int × Int) × List (Nat × Int)) (outs : List ck_Oc) (bc bs pc : Nat) (AL : ck_AL) (AS : ck_AS) (n : Nat) (F : ck_F) (k : Nat → Nat → Nat → ck_AL → ck_AS → Nat → ck_F → Bool) : Bool := (match AS with
    | q :: AS' => !(ck_so q.1 == 1) && k bc bs (pc + 1) AL (q :: q :: AS') n F
    | [] => false)
noncomputable def ck_h_pop  (O : gm_Or) (lx : Option Nat) (XF : List (Int × Int × ck_I)) (E : List (Nat × List ck_Sum)) (mi d n0 : Nat) (W : List (Nat × Int × Int) × List (Nat × Int)) (outs : List ck_Oc) (bc bs pc : Nat) (AL : ck_AL) (AS : ck_AS) (n : Nat) (F : ck_F) (k : Nat → Nat → Nat → ck_AL → ck_AS → Nat → ck_F → Bool) : Bool := (match AS with
    | q :: AS' => !(ck_so q.1 == 1) && k bc bs (pc + 1) AL AS' n F
    | [] => false)
noncomputable def ck_h_dup2  (O : gm_Or) (lx : Option Nat) (XF : List (Int × Int × ck_I)) (E : List (Nat × List ck_Sum)) (mi d n0 : Nat) (W : List (Nat × Int × Int) × List (Nat × Int)) (outs : List ck_Oc) (bc bs pc : Nat) (AL : ck_AL) (AS : ck_AS) (n : Nat) (F : ck_F) (k : Nat → Nat → Nat → ck_AL → ck_AS → Nat → ck_F → Bool) : Bool := (match AS with
    | q :: p :: AS' => (!(ck_so q.1 == 1) && !(ck_so p.1 == 1)) && k bc bs (pc + 1) AL (q :: p :: q :: p :: AS') n F
    | _ => false)
noncomputable def ck_h_iinc (j : Nat) (z : Int) (O : gm_Or) (lx : Option Nat) (XF : List (Int × Int × ck_I)) (E : List (Nat × List ck_Sum)) (mi d n0 : Nat) (W : List (Nat × Int × Int) × List (Nat × Int)) (outs : List ck_Oc) (bc bs pc : Nat) (AL : ck_AL) (AS : ck_AS) (n : Nat) (F : ck_F) (k : Nat → Nat → Nat → ck_AL → ck_AS → Nat → ck_F → Bool) : Bool := (match AL[j]? with
    | some (some (.inl a)) => if ck_in (a.1 + z, a.2.1 + z, []) = true then k bc bs (pc + 3) (ck_lst AL j (.inl (a.1 + z, a.2.1 + z, ck_mv a.2.2 z))) (ck_sl AS) n F else k bc bs (pc + 3) (ck_lst AL j (.inl ck_top)) (ck_sl AS) n F
    | _ => false)
noncomputable def ck_h_goto (off : Int) (O : gm_Or) (lx : Option Nat) (XF : List (Int × Int × ck_I)) (E : List (Nat × List ck_Sum)) (mi d n0 : Nat) (W : List (Nat × Int × Int) × List (Nat × Int)) (outs : List ck_Oc) (bc bs pc : Nat) (AL : ck_AL) (AS : ck_AS) (n : Nat) (F : ck_F) (k : Nat → Nat → Nat → ck_AL → ck_AS → Nat → ck_F → Bool) : Bool := decide (0 ≤ (pc : Int) + off) && k bc bs (gm_tgt pc off) AL AS n F
noncomputable def ck_h_ifCond (c : ClassFile.Cond) (off : Int) (O : gm_Or) (lx : Option Nat) (XF : List (Int × Int × ck_I)) (E : List (Nat × List ck_Sum)) (mi d n0 : Nat) (W : List (Nat × Int × Int) × List (Nat × Int)) (outs : List ck_Oc) (bc bs pc : Nat) (AL : ck_AL) (AS : ck_AS) (n : Nat) (F : ck_F) (k : Nat → Nat → Nat → ck_AL → ck_AS → Nat → ck_F → Bool) : Bool := (match AS with
    | (.inl a, s) :: AS' => decide (0 ≤ (pc : Int) + off) && (ck_br c a s (ck_one 0) none AL F (fun AL F => k bc bs (gm_tgt pc off) AL AS' n (ck_rE O F)) && ck_br (ck_ng c) a s (ck_one 0) none AL F (fun AL F => k bc bs (pc + 3) AL AS' n (ck_rE O F)))
    | _ => false)
noncomputable def ck_h_if_icmp (c : ClassFile.Cond) (off : Int) (O : gm_Or) (lx : Option Nat) (XF : List (Int × Int × ck_I)) (E : List (Nat × List ck_Sum)) (mi d n0 : Nat) (W : List (Nat × Int × Int) × List (Nat × Int)) (outs : List ck_Oc) (bc bs pc : Nat) (AL : ck_AL) (AS : ck_AS) (n : Nat) (F : ck_F) (k : Nat → Nat → Nat → ck_AL → ck_AS → Nat → ck_F → Bool) : Bool := (match AS with
    | (.inl b, t) :: (.inl a, s) :: AS' => decide (0 ≤ (pc : Int) + off) && (match ck_lkp O F s t with
      | some w => ck_br c w (some (.inr (.inl (0, 4, 0)))) (ck_one 0) none AL F (fun AL F => k bc bs (gm_tgt pc off) AL AS' n (ck_rE O F)) && ck_br (ck_ng c) w (some (.inr (.inl (0, 4, 0)))) (ck_one 0) none AL F (fun AL F => k bc bs (pc + 3) AL AS' n (ck_rE O F))
      | none => ck_br c a s b t AL F (fun AL F => k bc bs (gm_tgt pc off) AL AS' n (ck_rE O F)) && ck_br (ck_ng c) a s b t AL F (fun AL F => k bc bs (pc + 3) AL AS' n (ck_rE O F)))
    | _ => false)
noncomputable def ck_h_ifnull (off : Int) (O : gm_Or) (lx : Option Nat) (XF : List (Int × Int × ck_I)) (E : List (Nat × List ck_Sum)) (mi d n0 : Nat) (W : List (Nat × Int × Int) × List (Nat × Int)) (outs : List ck_Oc) (bc bs pc : Nat) (AL : ck_AL) (AS : ck_AS) (n : Nat) (F : ck_F) (k : Nat → Nat → Nat → ck_AL → ck_AS → Nat → ck_F → Bool) : Bool := (match AS with
    | (.inr (.inr (.inl r)), _) :: AS' => (decide (0 ≤ (pc : Int) + off) && decide (r < 100000)) && (if r = 0 then k bc bs (gm_tgt pc off) AL AS' n F else k bc bs (pc + 3) AL AS' n F)
    | _ => false)
noncomputable def ck_h_ifnonnull (off : Int) (O : gm_Or) (lx : Option Nat) (XF : List (Int × Int × ck_I)) (E : List (Nat × List ck_Sum)) (mi d n0 : Nat) (W : List (Nat × Int × Int) × List (Nat × Int)) (outs : List ck_Oc) (bc bs pc : Nat) (AL : ck_AL) (AS : ck_AS) (n : Nat) (F : ck_F) (k : Nat → Nat → Nat → ck_AL → ck_AS → Nat → ck_F → Bool) : Bool := (match AS with
    | (.inr (.inr (.inl r)), _) :: AS' => (decide (0 ≤ (pc : Int) + off) && decide (r < 100000)) && (if r = 0 then k bc bs (pc + 3) AL AS' n F else k bc bs (gm_tgt pc off) AL AS' n F)
    | _ => false)
noncomputable def ck_h_tableswitch (df lo hi : Int) (offs : Array Int) (O : gm_Or) (lx : Option Nat) (XF : List (Int × Int × ck_I)) (E : List (Nat × List ck_Sum)) (mi d n0 : Nat) (W : List (Nat × Int × Int) × List (Nat × Int)) (outs : List ck_Oc) (bc bs pc : Nat) (AL : ck_AL) (AS : ck_AS) (n : Nat) (F : ck_F) (k : Nat → Nat → Nat → ck_AL → ck_AS → Nat → ck_F → Bool) : Bool := (match AS with
    | (.inl a, s) :: AS' => (decide (((offs.size : Nat) : Int) = hi - lo + 1) && (decide (0 ≤ (pc : Int) + df) && (offs.toList.all (fun o => decide (0 ≤ (pc : Int) + o)) && (decide (-2147483647 ≤ lo) && decide (hi < 2147483647))))) && ((ck_br .lt a s (ck_one lo) none AL F (fun AL F => k bc bs (gm_tgt pc df) AL AS' n F) && ck_br .gt a s (ck_one hi) none AL F (fun AL F => k bc bs (gm_tgt pc df) AL AS' n F)) && ck_swk a s AL F pc (fun q AL F => k bc bs q AL AS' n F) offs.toList lo)
    | _ => false)
noncomputable def ck_h_getfield (ix : Nat) (O : gm_Or) (lx : Option Nat) (XF : List (Int × Int × ck_I)) (E : List (Nat × List ck_Sum)) (mi d n0 : Nat) (W : List (Nat × Int × Int) × List (Nat × Int)) (outs : List ck_Oc) (bc bs pc : Nat) (AL : ck_AL) (AS : ck_AS) (n : Nat) (F : ck_F) (k : Nat → Nat → Nat → ck_AL → ck_AS → Nat → ck_F → Bool) : Bool := (match AS with
    | (.inr (.inr (.inl r)), _) :: AS' => (match ck_kd O F r with
      | some q => (match gm_fld (gm_ow mi) ix (q.1 - 4) with
        | some j => decide (4 ≤ q.1) && (if gm_isr (q.1 - 4) j = true then (match ck_fR O F r j with
            | some v => k bc bs (pc + 3) AL ((.inr (.inr (.inl v)), none) :: AS') n F
            | none => false) else (match ck_fi F r j j with
              | some a => k bc bs (pc + 3) AL ((.inl a, some (.inr (.inl (r, (j : Int), 0)))) :: AS') n F
              | none => (match gm_tyr O r j j with
                | some t => k bc bs (pc + 3) AL ((.inl (t.1, t.2, []), some (.inr (.inl (r, (j : Int), 0)))) :: AS') n (F.1, F.2.1, (r, (j : Int), (j : Int), (t.1, t.2, [])) :: F.2.2)
                | none => k bc bs (pc + 3) AL ((.inl ck_top, none) :: AS') n F)))
        | none => false)
      | none => false)
    | _ => false)
noncomputable def ck_h_putfield (ix : Nat) (O : gm_Or) (lx : Option Nat) (XF : List (Int × Int × ck_I)) (E : List (Nat × List ck_Sum)) (mi d n0 : Nat) (W : List (Nat × Int × Int) × List (Nat × Int)) (outs : List ck_Oc) (bc bs pc : Nat) (AL : ck_AL) (AS : ck_AS) (n : Nat) (F : ck_F) (k : Nat → Nat → Nat → ck_AL → ck_AS → Nat → ck_F → Bool) : Bool := (match AS with
    | (.inl a, s) :: (.inr (.inr (.inl r)), _) :: AS' => (match ck_kd O F r with
      | some q => (match gm_fld (gm_ow mi) ix (q.1 - 4) with
        | some j => (match ck_gp O F r j s a with
          | some g => (decide (4 ≤ q.1) && (gm_may mi (q.1 - 4) j && ((gm_tyv O r j j a.1 a.2.1 && (O.2.2.ty 0).isEmpty) && ((ck_okW W.1 n0 r j j && (ck_okW W.1 n0 0 4 4 && (ck_okW W.1 n0 0 3 3 && ck_okW W.1 n0 0 5 5))) && ((ck_in g.1 && (ck_in g.2.1 && ck_in g.2.2)) && gm_fk (q.1 - 4) j == 0))))) && k bc bs (pc + 3) AL (ck_sh AS') n (ck_gF F r j a g)
          | none => (decide (4 ≤ q.1) && (gm_may mi (q.1 - 4) j && (gm_tyw O r j j a.1 a.2.1 && (ck_okW W.1 n0 r j j && (gm_fk (q.1 - 4) j == 0 || (gm_fk (q.1 - 4) j == 1 && (decide (0 ≤ a.1) && decide (a.2.1 ≤ 1)))))))) && k bc bs (pc + 3) AL (ck_sh AS') n (ck_upT O F r j j a))
        | none => false)
      | none => false)
    | (.inr (.inr (.inl v)), _) :: (.inr (.inr (.inl r)), _) :: AS' => (match ck_kd O F r with
      | some q => (match gm_fld (gm_ow mi) ix (q.1 - 4) with
        | some j => (decide (4 ≤ q.1) && (gm_may mi (q.1 - 4) j && ((O.2.1 r j).isNone && (ck_okR W.2 n0 r j && gm_fk (q.1 - 4) j == 2)))) && k bc bs (pc + 3) AL AS' n (ck_upR F r j v)
        | none => false)
      | none => false)
    | _ => false)
noncomputable def ck_h_iaload  (O : gm_Or) (lx : Option Nat) (XF : List (Int × Int × ck_I)) (E : List (Nat × List ck_Sum)) (mi d n0 : Nat) (W : List (Nat × Int × Int) × List (Nat × Int)) (outs : List ck_Oc) (bc bs pc : Nat) (AL : ck_AL) (AS : ck_AS) (n : Nat) (F : ck_F) (k : Nat → Nat → Nat → ck_AL → ck_AS → Nat → ck_F → Bool) : Bool := (match AS with
    | (.inl e, _) :: (.inr (.inr (.inl r)), _) :: AS' => (match ck_kd O F r with
      | some q => (q.1 == 0 && (decide (0 ≤ e.1) && decide (e.2.1 < (q.2 : Int)))) && (match ck_fi F r e.1 e.2.1 with
        | some a => k bc bs (pc + 1) AL ((.inl a, if ck_sg e = true then some (.inr (.inl (r, e.1, 0))) else none) :: AS') n F
        | none => (match gm_tyr O r e.1 e.2.1 with
          | some t => if ck_sg e = true then k bc bs (pc + 1) AL ((.inl (t.1, t.2, []), some (.inr (.inl (r, e.1, 0)))) :: AS') n (F.1, F.2.1, (r, e.1, e.1, (t.1, t.2, [])) :: F.2.2) else k bc bs (pc + 1) AL ((.inl (t.1, t.2, []), none) :: AS') n F
          | none => k bc bs (pc + 1) AL ((.inl ck_top, none) :: AS') n F))
      | none => false)
    | (.inl e, _) :: (.inr (.inr (.inr c)), _) :: AS' => (match lx with
      | some l => (c == 2000 && (decide (0 ≤ e.1) && decide (e.2.1 < (l : Int)))) && (match XF.find? fun q => decide (q.1 ≤ e.1) && decide (e.2.1 ≤ q.2.1) with
        | some q => k bc bs (pc + 1) AL ((.inl q.2.2, none) :: AS') n F
        | none => k bc bs (pc + 1) AL ((.inl ck_top, none) :: AS') n F)
      | none => false)
    | _ => false)
noncomputable def ck_h_baload  (O : gm_Or) (lx : Option Nat) (XF : List (Int × Int × ck_I)) (E : List (Nat × List ck_Sum)) (mi d n0 : Nat) (W : List (Nat × Int × Int) × List (Nat × Int)) (outs : List ck_Oc) (bc bs pc : Nat) (AL : ck_AL) (AS : ck_AS) (n : Nat) (F : ck_F) (k : Nat → Nat → Nat → ck_AL → ck_AS → Nat → ck_F → Bool) : Bool := (match AS with
    | (.inl e, _) :: (.inr (.inr (.inl r)), _) :: AS' => (match ck_kd O F r with
      | some q => (q.1 == 1 && (decide (0 ≤ e.1) && decide (e.2.1 < (q.2 : Int)))) && (match ck_fi F r e.1 e.2.1 with
        | some a => k bc bs (pc + 1) AL ((.inl a, if ck_sg e = true then some (.inr (.inl (r, e.1, 0))) else none) :: AS') n F
        | none => (match gm_tyr O r e.1 e.2.1 with
          | some t => if ck_sg e = true then k bc bs (pc + 1) AL ((.inl (t.1, t.2, []), some (.inr (.inl (r, e.1, 0)))) :: AS') n (F.1, F.2.1, (r, e.1, e.1, (t.1, t.2, [])) :: F.2.2) else k bc bs (pc + 1) AL ((.inl (t.1, t.2, []), none) :: AS') n F
          | none => k bc bs (pc + 1) AL ((.inl ck_top, none) :: AS') n F))
      | none => false)
    | _ => false)
noncomputable def ck_h_laload  (O : gm_Or) (lx : Option Nat) (XF : List (Int × Int × ck_I)) (E : List (Nat × List ck_Sum)) (mi d n0 : Nat) (W : List (Nat × Int × Int) × List (Nat × Int)) (outs : List ck_Oc) (bc bs pc : Nat) (AL : ck_AL) (AS : ck_AS) (n : Nat) (F : ck_F) (k : Nat → Nat → Nat → ck_AL → ck_AS → Nat → ck_F → Bool) : Bool := (match AS with
    | (.inl e, _) :: (.inr (.inr (.inl r)), _) :: AS' => (match ck_kd O F r with
      | some q => (q.1 == 2 && (decide (0 ≤ e.1) && decide (e.2.1 < (q.2 : Int)))) && (match ck_fi F r e.1 e.2.1 with
        | some a => k bc bs (pc + 1) AL ((.inr (.inl a), none) :: AS') n F
        | none => k bc bs (pc + 1) AL ((.inr (.inl ck_tp6), none) :: AS') n F)
      | none => false)
    | _ => false)
noncomputable def ck_h_aaload  (O : gm_Or) (lx : Option Nat) (XF : List (Int × Int × ck_I)) (E : List (Nat × List ck_Sum)) (mi d n0 : Nat) (W : List (Nat × Int × Int) × List (Nat × Int)) (outs : List ck_Oc) (bc bs pc : Nat) (AL : ck_AL) (AS : ck_AS) (n : Nat) (F : ck_F) (k : Nat → Nat → Nat → ck_AL → ck_AS → Nat → ck_F → Bool) : Bool := (match AS with
    | (.inl e, _) :: (.inr (.inr (.inl r)), _) :: AS' => (match ck_kd O F r with
      | some q => (q.1 == 3 && (decide (0 ≤ e.1) && (decide (e.2.1 < (q.2 : Int)) && decide (e.2.1 < e.1 + 20)))) && (List.range (e.2.1 + 1 - e.1).toNat).all fun (i : Nat) => (match ck_fR O F r (e.1 + (i : Int)) with
        | some v => k bc bs (pc + 1) AL ((.inr (.inr (.inl v)), none) :: AS') n F
        | none => false)
      | none => false)
    | _ => false)
noncomputable def ck_h_iastore  (O : gm_Or) (lx : Option Nat) (XF : List (Int × Int × ck_I)) (E : List (Nat × List ck_Sum)) (mi d n0 : Nat) (W : List (Nat × Int × Int) × List (Nat × Int)) (outs : List ck_Oc) (bc bs pc : Nat) (AL : ck_AL) (AS : ck_AS) (n : Nat) (F : ck_F) (k : Nat → Nat → Nat → ck_AL → ck_AS → Nat → ck_F → Bool) : Bool := (match AS with
    | (.inl a, _) :: (.inl e, _) :: (.inr (.inr (.inl r)), _) :: AS' => (match ck_kd O F r with
      | some q => (q.1 == 0 && (decide (0 ≤ e.1) && (decide (e.2.1 < (q.2 : Int)) && (ck_okW W.1 n0 r e.1 e.2.1 && gm_tyw O r e.1 e.2.1 a.1 a.2.1)))) && k bc bs (pc + 1) AL (ck_sh AS') n (ck_upT O F r e.1 e.2.1 a)
      | none => false)
    | _ => false)
noncomputable def ck_h_bastore  (O : gm_Or) (lx : Option Nat) (XF : List (Int × Int × ck_I)) (E : List (Nat × List ck_Sum)) (mi d n0 : Nat) (W : List (Nat × Int × Int) × List (Nat × Int)) (outs : List ck_Oc) (bc bs pc : Nat) (AL : ck_AL) (AS : ck_AS) (n : Nat) (F : ck_F) (k : Nat → Nat → Nat → ck_AL → ck_AS → Nat → ck_F → Bool) : Bool := (match AS with
    | (.inl a, _) :: (.inl e, _) :: (.inr (.inr (.inl r)), _) :: AS' => (match ck_kd O F r with
      | some q => (q.1 == 1 && (decide (0 ≤ e.1) && (decide (e.2.1 < (q.2 : Int)) && (ck_okW W.1 n0 r e.1 e.2.1 && (if -128 ≤ a.1 ∧ a.2.1 ≤ 127 then gm_tyw O r e.1 e.2.1 a.1 a.2.1 else gm_tyw O r e.1 e.2.1 (-128) 127))))) && k bc bs (pc + 1) AL (ck_sh AS') n (ck_upT O F r e.1 e.2.1 (if -128 ≤ a.1 ∧ a.2.1 ≤ 127 then a else (-128, 127, [])))
      | none => false)
    | _ => false)
noncomputable def ck_h_lastore  (O : gm_Or) (lx : Option Nat) (XF : List (Int × Int × ck_I)) (E : List (Nat × List ck_Sum)) (mi d n0 : Nat) (W : List (Nat × Int × Int) × List (Nat × Int)) (outs : List ck_Oc) (bc bs pc : Nat) (AL : ck_AL) (AS : ck_AS) (n : Nat) (F : ck_F) (k : Nat → Nat → Nat → ck_AL → ck_AS → Nat → ck_F → Bool) : Bool := (match AS with
    | (.inr (.inl a), _) :: (.inl e, _) :: (.inr (.inr (.inl r)), _) :: AS' => (match ck_kd O F r with
      | some q => (q.1 == 2 && (decide (0 ≤ e.1) && (decide (e.2.1 < (q.2 : Int)) && (ck_okW W.1 n0 r e.1 e.2.1 && ((O.2.2.ty r).isEmpty && (O.2.2.fp r).isEmpty))))) && (if ck_in a = true then k bc bs (pc + 1) AL (ck_sh AS') n (ck_up F r e.1 e.2.1 a) else k bc bs (pc + 1) AL (ck_sh AS') n (F.1, F.2.1, F.2.2.filter fun p => !(p.1 == r)))
      | none => false)
    | _ => false)
noncomputable def ck_h_aastore  (O : gm_Or) (lx : Option Nat) (XF : List (Int × Int × ck_I)) (E : List (Nat × List ck_Sum)) (mi d n0 : Nat) (W : List (Nat × Int × Int) × List (Nat × Int)) (outs : List ck_Oc) (bc bs pc : Nat) (AL : ck_AL) (AS : ck_AS) (n : Nat) (F : ck_F) (k : Nat → Nat → Nat → ck_AL → ck_AS → Nat → ck_F → Bool) : Bool := (match AS with
    | (.inr (.inr (.inl v)), _) :: (.inl e, _) :: (.inr (.inr (.inl r)), _) :: AS' => (match ck_kd O F r, ck_kd O F v with
      | some q, some p => (q.1 == 3 && (p.1 == 5 && (ck_sg e && (decide (0 ≤ e.1) && (decide (e.1 < (q.2 : Int)) && ((O.2.1 r e.1).isNone && ck_okR W.2 n0 r e.1)))))) && k bc bs (pc + 1) AL AS' n (ck_upR F r e.1 v)
      | _, _ => false)
    | _ => false)
noncomputable def ck_h_arraylength  (O : gm_Or) (lx : Option Nat) (XF : List (Int × Int × ck_I)) (E : List (Nat × List ck_Sum)) (mi d n0 : Nat) (W : List (Nat × Int × Int) × List (Nat × Int)) (outs : List ck_Oc) (bc bs pc : Nat) (AL : ck_AL) (AS : ck_AS) (n : Nat) (F : ck_F) (k : Nat → Nat → Nat → ck_AL → ck_AS → Nat → ck_F → Bool) : Bool := (match AS with
    | (.inr (.inr (.inl r)), _) :: AS' => (match ck_kd O F r with
      | some q => (decide (q.1 ≤ 3) && ck_cvk (gm_vi (q.2 : Int))) && k bc bs (pc + 1) AL ((.inl (ck_one q.2), none) :: AS') n F
      | none => false)
    | (.inr (.inr (.inr c)), _) :: AS' => (match lx with
      | some l => (c == 2000 && ck_cvk (gm_vi (l : Int))) && k bc bs (pc + 1) AL ((.inl (ck_one l), none) :: AS') n F
      | none => false)
    | _ => false)
noncomputable def ck_h_new (ix : Nat) (O : gm_Or) (lx : Option Nat) (XF : List (Int × Int × ck_I)) (E : List (Nat × List ck_Sum)) (mi d n0 : Nat) (W : List (Nat × Int × Int) × List (Nat × Int)) (outs : List ck_Oc) (bc bs pc : Nat) (AL : ck_AL) (AS : ck_AS) (n : Nat) (F : ck_F) (k : Nat → Nat → Nat → ck_AL → ck_AS → Nat → ck_F → Bool) : Bool := (match gm_new (gm_ow mi) ix with
    | some ci => ((decide (1 ≤ bc) && decide (gm_nf ci ≤ bs)) && decide (n + 1 < 100000)) && k (bc - 1) (bs - gm_nf ci) (pc + 3) AL ((.inr (.inr (.inl (n + 1))), none) :: ck_sh AS) (n + 1) ((n + 1, ci + 4, 0) :: F.1, F.2.1, ((List.range (gm_nf ci)).map fun (j : Nat) => (n + 1, (j : Int), (j : Int), ck_one 0)) ++ F.2.2)
    | none => (match gm_isx mi pc ix with
      | some x => ((gm_hh mi).isEmpty && (decide (6 ≤ d) && (ck_sum8 AS && (decide (1 ≤ bc) && decide (6 ≤ bs))))) && ck_end O outs (.inl x) n F
      | none => false))
noncomputable def ck_h_newarray (at0 : ArrayType) (O : gm_Or) (lx : Option Nat) (XF : List (Int × Int × ck_I)) (E : List (Nat × List ck_Sum)) (mi d n0 : Nat) (W : List (Nat × Int × Int) × List (Nat × Int)) (outs : List ck_Oc) (bc bs pc : Nat) (AL : ck_AL) (AS : ck_AS) (n : Nat) (F : ck_F) (k : Nat → Nat → Nat → ck_AL → ck_AS → Nat → ck_F → Bool) : Bool := (match AS, (match at0 with | .int => some 0 | .byte => some 1 | .long => some 2 | _ => none : Option Nat) with
    | (.inl e, _) :: AS', some kd => (ck_sg e && (decide (0 ≤ e.1) && (decide (e.1 < 60000000) && (decide (1 ≤ bc) && (decide (e.1.toNat ≤ bs) && decide (n + 1 < 100000)))))) && k (bc - 1) (bs - e.1.toNat) (pc + 2) AL ((.inr (.inr (.inl (n + 1))), none) :: ck_sh AS') (n + 1) ((n + 1, kd, e.1.toNat) :: F.1, F.2.1, (n + 1, 0, e.1 - 1, ck_one 0) :: F.2.2)
    | _, _ => false)
noncomputable def ck_h_anewarray (ix : Nat) (O : gm_Or) (lx : Option Nat) (XF : List (Int × Int × ck_I)) (E : List (Nat × List ck_Sum)) (mi d n0 : Nat) (W : List (Nat × Int × Int) × List (Nat × Int)) (outs : List ck_Oc) (bc bs pc : Nat) (AL : ck_AL) (AS : ck_AS) (n : Nat) (F : ck_F) (k : Nat → Nat → Nat → ck_AL → ck_AS → Nat → ck_F → Bool) : Bool := (match AS with
    | (.inl e, _) :: AS' => (decide (gm_new (gm_ow mi) ix = some 1) && (ck_sg e && (decide (0 ≤ e.1) && (decide (e.1 < 60000000) && (decide (1 ≤ bc) && (decide (e.1.toNat ≤ bs) && decide (n + 1 < 100000))))))) && k (bc - 1) (bs - e.1.toNat) (pc + 3) AL ((.inr (.inr (.inl (n + 1))), none) :: ck_sh AS') (n + 1) ((n + 1, 3, e.1.toNat) :: F.1, F.2.1, F.2.2)
    | _ => false)
noncomputable def ck_h_ldc (ix : Nat) (O : gm_Or) (lx : Option Nat) (XF : List (Int × Int × ck_I)) (E : List (Nat × List ck_Sum)) (mi d n0 : Nat) (W : List (Nat × Int × Int) × List (Nat × Int)) (outs : List ck_Oc) (bc bs pc : Nat) (AL : ck_AL) (AS : ck_AS) (n : Nat) (F : ck_F) (k : Nat → Nat → Nat → ck_AL → ck_AS → Nat → ck_F → Bool) : Bool := (match gm_ild (gm_ow mi) ix with
    | some q => (q.2 == 0 && ck_cvk (gm_vi q.1)) && k bc bs (pc + 2) AL ((.inl (ck_one q.1), none) :: AS) n F
    | none => (match gm_sld (gm_ow mi) ix with
      | some id => k bc bs (pc + 2) AL ((.inr (.inr (.inr id)), none) :: AS) n F
      | none => false))
noncomputable def ck_h_ldc_w (ix : Nat) (O : gm_Or) (lx : Option Nat) (XF : List (Int × Int × ck_I)) (E : List (Nat × List ck_Sum)) (mi d n0 : Nat) (W : List (Nat × Int × Int) × List (Nat × Int)) (outs : List ck_Oc) (bc bs pc : Nat) (AL : ck_AL) (AS : ck_AS) (n : Nat) (F : ck_F) (k : Nat → Nat → Nat → ck_AL → ck_AS → Nat → ck_F → Bool) : Bool := (match gm_ild (gm_ow mi) ix with
    | some q => (q.2 == 0 && ck_cvk (gm_vi q.1)) && k bc bs (pc + 3) AL ((.inl (ck_one q.1), none) :: AS) n F
    | none => (match gm_sld (gm_ow mi) ix with
      | some id => k bc bs (pc + 3) AL ((.inr (.inr (.inr id)), none) :: AS) n F
      | none => false))
noncomputable def ck_h_ldc2_w (ix : Nat) (O : gm_Or) (lx : Option Nat) (XF : List (Int × Int × ck_I)) (E : List (Nat × List ck_Sum)) (mi d n0 : Nat) (W : List (Nat × Int × Int) × List (Nat × Int)) (outs : List ck_Oc) (bc bs pc : Nat) (AL : ck_AL) (AS : ck_AS) (n : Nat) (F : ck_F) (k : Nat → Nat → Nat → ck_AL → ck_AS → Nat → ck_F → Bool) : Bool := (match gm_ild (gm_ow mi) ix with
    | some q => (q.2 == 1 && ck_cvk (gm_vl q.1)) && k bc bs (pc + 3) AL ((.inr (.inl (ck_one q.1)), none) :: AS) n F
    | none => false)
noncomputable def ck_h_invokestatic (ix : Nat) (O : gm_Or) (lx : Option Nat) (XF : List (Int × Int × ck_I)) (E : List (Nat × List ck_Sum)) (mi d n0 : Nat) (W : List (Nat × Int × Int) × List (Nat × Int)) (outs : List ck_Oc) (bc bs pc : Nat) (AL : ck_AL) (AS : ck_AS) (n : Nat) (F : ck_F) (k : Nat → Nat → Nat → ck_AL → ck_AS → Nat → ck_F → Bool) : Bool := (match gm_cal (gm_ow mi) ix with
    | some q => if q.1 = 5 then ((gm_hh mi).isEmpty && (!(gm_hh q.2).isEmpty && (decide (gm_ow q.2 ≠ gm_mxi) && (decide ((AS.take (gm_na q.2)).length = gm_na q.2) && (ck_n1 (AS.take (gm_na q.2)) && (decide (gm_na q.2 ≤ gm_ml q.2) && ck_sum8 (AS.drop (gm_na q.2)))))))) && ck_call O E d n0 W bc bs n q.2 F ((AS.take (gm_na q.2)).reverse.map Prod.fst) (fun bc bs how n F => match how with
          | .inl x => ck_thr O outs mi pc x n F (fun h => k bc bs h AL [(.inr (.inr (.inr 4000)), none)] n F)
          | .inr u => k bc bs (pc + 3) AL (ck_psh u (AS.drop (gm_na q.2))) n F) else (q.1 == 2 && decide (1 ≤ d)) && (if q.2 = gm_jmax then (match AS with
        | (.inl b, _) :: (.inl a, _) :: AS' => ck_sum8 AS' && k bc bs (pc + 3) AL ((.inl (if a.1 ≤ b.1 then b.1 else a.1, if a.2.1 ≤ b.2.1 then b.2.1 else a.2.1, []), none) :: AS') n F
        | _ => false) else if q.2 = gm_jmin then (match AS with
        | (.inl b, _) :: (.inl a, _) :: AS' => ck_sum8 AS' && k bc bs (pc + 3) AL ((.inl (if a.1 ≤ b.1 then a.1 else b.1, if a.2.1 ≤ b.2.1 then a.2.1 else b.2.1, []), none) :: AS') n F
        | _ => false) else ((gm_hh mi).isEmpty && (decide (gm_ow q.2 ≠ gm_mxi) && (decide ((AS.take (gm_na q.2)).length = gm_na q.2) && (ck_n1 (AS.take (gm_na q.2)) && (decide (gm_na q.2 ≤ gm_ml q.2) && ck_sum8 (AS.drop (gm_na q.2))))))) && ck_call O E d n0 W bc bs n q.2 F ((AS.take (gm_na q.2)).reverse.map Prod.fst) (fun bc bs how n F => match how with
          | .inl x => ck_thr O outs mi pc x n F (fun h => k bc bs h AL [(.inr (.inr (.inr 4000)), none)] n F)
          | .inr u => k bc bs (pc + 3) AL (ck_psh u (AS.drop (gm_na q.2))) n F))
    | none => gm_ac (gm_ow mi) ix && (match AS with
      | (.inl m, _) :: (.inl dp, _) :: (.inr (.inr (.inl k2)), _) :: (.inl sp, _) :: (.inr (.inr (.inl k1)), _) :: AS' => (match ck_kd O F k1, ck_kd O F k2 with
        | some q1, some q2 => (q1.1 == 0 && (q2.1 == 0 && (decide (0 ≤ sp.1) && (decide (0 ≤ dp.1) && (decide (0 ≤ m.1) && (decide (sp.2.1 + m.2.1 ≤ (q1.2 : Int)) && (decide (dp.2.1 + m.2.1 ≤ (q2.2 : Int)) && (ck_okW W.1 n0 k2 dp.1 (dp.2.1 + m.2.1 - 1) && (ck_sum8 AS' && (decide (1 ≤ d) && (match ck_rd O F k1 sp.1 (sp.2.1 + m.2.1 - 1) with | some a => gm_tyw O k2 dp.1 (dp.2.1 + m.2.1 - 1) a.1 a.2.1 | none => ((O.2.2.ty k2).isEmpty && (O.2.2.fp k2).isEmpty)))))))))))) && k bc bs (pc + 3) AL (ck_sh AS') n (F.1, F.2.1, ck_cws [(k2, dp.1, dp.2.1 + m.2.1 - 1)] F.2.2)
        | _, _ => false)
      | _ => false))
noncomputable def ck_h_invokevirtual (ix : Nat) (O : gm_Or) (lx : Option Nat) (XF : List (Int × Int × ck_I)) (E : List (Nat × List ck_Sum)) (mi d n0 : Nat) (W : List (Nat × Int × Int) × List (Nat × Int)) (outs : List ck_Oc) (bc bs pc : Nat) (AL : ck_AL) (AS : ck_AS) (n : Nat) (F : ck_F) (k : Nat → Nat → Nat → ck_AL → ck_AS → Nat → ck_F → Bool) : Bool := (match gm_cal (gm_ow mi) ix with
    | some q => if q.2 = 82 then (match AS with
        | (.inr (.inr (.inr id)), _) :: AS' => (q.1 == 0 && ((gm_hh mi).isEmpty && (decide (id < gm_sl.length) && (ck_sum8 AS' && decide (2 ≤ d))))) && k bc bs (pc + 3) AL ((.inl (ck_one (gm_slen id)), none) :: AS') n F
        | _ => false) else if q.2 = 84 then (match AS with
        | (.inl e, _) :: (.inr (.inr (.inr id)), _) :: AS' => (q.1 == 0 && ((gm_hh mi).isEmpty && (decide (id < gm_sl.length) && (ck_sum8 AS' && (decide (4 ≤ d) && (decide (0 ≤ e.1) && decide (e.2.1 < (gm_slen id : Int)))))))) && k bc bs (pc + 3) AL ((.inl (0, 127, []), none) :: AS') n F
        | _ => false) else (q.1 == 0 && (decide (gm_ow q.2 ≠ gm_mxi) && (decide (gm_cio q.2 < 12) && (decide ((AS.take (gm_na q.2)).length = gm_na q.2) && (ck_n1 (AS.take (gm_na q.2)) && decide (gm_na q.2 + 1 ≤ gm_ml q.2)))))) && (match AS.drop (gm_na q.2) with
      | (.inr (.inr (.inl r)), _) :: AS' => (ck_sum8 AS' && (match ck_kd O F r with
          | some p => p.1 == gm_cio q.2 + 4
          | none => false)) && ck_call O E d n0 W bc bs n q.2 F ((.inr (.inr (.inl r))) :: (AS.take (gm_na q.2)).reverse.map Prod.fst) (fun bc bs how n F => match how with
          | .inl x => ck_thr O outs mi pc x n F (fun h => k bc bs h AL [(.inr (.inr (.inr 4000)), none)] n F)
          | .inr u => k bc bs (pc + 3) AL (ck_psh u AS') n F)
      | _ => false)
    | none => (match gm_una (gm_ow mi) ix with
      | some na => (match AS.drop na with
        | (.inr (.inr (.inl r)), _) :: AS' => (match ck_kd O F r with
          | some p => (match gm_up (gm_ow mi) ix (p.1 - 4) with
            | some mj => ((gm_hh mi).isEmpty && (decide (4 ≤ p.1) && (decide ((AS.take na).length = na) && (decide (gm_na mj = na) && (ck_n1 (AS.take na) && (decide (na + 1 ≤ gm_ml mj) && ck_sum8 AS')))))) && ck_call O E d n0 W bc bs n mj F ((.inr (.inr (.inl r))) :: (AS.take na).reverse.map Prod.fst) (fun bc bs how n F => match how with
              | .inl x => ck_thr O outs mi pc x n F (fun h => k bc bs h AL [(.inr (.inr (.inr 4000)), none)] n F)
              | .inr u => k bc bs (pc + 3) AL (ck_psh u AS') n F)
            | none => false)
          | none => false)
        | _ => false)
      | none => false))
noncomputable def ck_h_invokespecial (ix : Nat) (O : gm_Or) (lx : Option Nat) (XF : List (Int × Int × ck_I)) (E : List (Nat × List ck_Sum)) (mi d n0 : Nat) (W : List (Nat × Int × Int) × List (Nat × Int)) (outs : List ck_Oc) (bc bs pc : Nat) (AL : ck_AL) (AS : ck_AS) (n : Nat) (F : ck_F) (k : Nat → Nat → Nat → ck_AL → ck_AS → Nat → ck_F → Bool) : Bool := if gm_oi (gm_ow mi) ix = true then (match AS with
      | (.inr (.inr (.inl r)), _) :: AS' => (ck_sum8 AS' && (decide (1 ≤ d) && (decide (1 ≤ r) && decide (r ≤ n)))) && k bc bs (pc + 3) AL AS' n F
      | _ => false) else (match gm_cal (gm_ow mi) ix with
    | some q => ((gm_hh mi).isEmpty && ((q.1 == 1 || q.1 == 3) && (decide (gm_ow q.2 ≠ gm_mxi) && (decide ((AS.take (gm_na q.2)).length = gm_na q.2) && (ck_n1 (AS.take (gm_na q.2)) && decide (gm_na q.2 + 1 ≤ gm_ml q.2)))))) && (match AS.drop (gm_na q.2) with
      | (.inr (.inr (.inl r)), _) :: AS' => (ck_sum8 AS' && (decide (1 ≤ r) && decide (r ≤ n))) && ck_call O E d n0 W bc bs n q.2 F ((.inr (.inr (.inl r))) :: (AS.take (gm_na q.2)).reverse.map Prod.fst) (fun bc bs how n F => match how with
          | .inl x => ck_thr O outs mi pc x n F (fun h => k bc bs h AL [(.inr (.inr (.inr 4000)), none)] n F)
          | .inr u => k bc bs (pc + 3) AL (ck_psh u AS') n F)
      | _ => false)
    | none => false)
noncomputable def ck_h_ireturn  (O : gm_Or) (lx : Option Nat) (XF : List (Int × Int × ck_I)) (E : List (Nat × List ck_Sum)) (mi d n0 : Nat) (W : List (Nat × Int × Int) × List (Nat × Int)) (outs : List ck_Oc) (bc bs pc : Nat) (AL : ck_AL) (AS : ck_AS) (n : Nat) (F : ck_F) (k : Nat → Nat → Nat → ck_AL → ck_AS → Nat → ck_F → Bool) : Bool := (match AS with
    | (.inl a, s) :: [] => (match gm_rt mi with
      | some .int => cond (ck_sgn a s) (ck_br .lt a s (ck_one 0) none AL F (fun _ F => ck_end O outs (.inr (some (.inl (ck_rf .lt a (ck_one 0))))) n F) && ck_br .ge a s (ck_one 0) none AL F (fun _ F => ck_end O outs (.inr (some (.inl (ck_rf .ge a (ck_one 0))))) n F)) (ck_end O outs (.inr (some (.inl a))) n F)
      | some .boolean => (decide (0 ≤ a.1) && decide (a.2.1 ≤ 1)) && ck_end O outs (.inr (some (.inl a))) n F
      | _ => false)
    | _ => false)
noncomputable def ck_h_return  (O : gm_Or) (lx : Option Nat) (XF : List (Int × Int × ck_I)) (E : List (Nat × List ck_Sum)) (mi d n0 : Nat) (W : List (Nat × Int × Int) × List (Nat × Int)) (outs : List ck_Oc) (bc bs pc : Nat) (AL : ck_AL) (AS : ck_AS) (n : Nat) (F : ck_F) (k : Nat → Nat → Nat → ck_AL → ck_AS → Nat → ck_F → Bool) : Bool := (match AS with
    | [] => (gm_rt mi).isNone && ck_end O outs (.inr none) n F
    | _ => false)
noncomputable def ck_h_areturn  (O : gm_Or) (lx : Option Nat) (XF : List (Int × Int × ck_I)) (E : List (Nat × List ck_Sum)) (mi d n0 : Nat) (W : List (Nat × Int × Int) × List (Nat × Int)) (outs : List ck_Oc) (bc bs pc : Nat) (AL : ck_AL) (AS : ck_AS) (n : Nat) (F : ck_F) (k : Nat → Nat → Nat → ck_AL → ck_AS → Nat → ck_F → Bool) : Bool := (match AS with
    | (.inr (.inr (.inl r)), _) :: [] => (match gm_rt mi with
      | some (.object _) => ck_end O outs (.inr (some (.inr (.inr (.inl r))))) n F
      | some (.array _) => ck_end O outs (.inr (some (.inr (.inr (.inl r))))) n F
      | _ => false)
    | _ => false)
noncomputable def ck_g_iadd : ck_I → ck_I → ck_I := fun a b => (a.1 + b.1, a.2.1 + b.2.1, if ck_sg b = true then ck_mv a.2.2 b.1 else if ck_sg a = true then ck_mv b.2.2 a.1 else [])
noncomputable def ck_o_iadd : Int → Int → Int := fun x y => x + y
noncomputable def ck_g_isub : ck_I → ck_I → ck_I := fun a b => (a.1 - b.2.1, a.2.1 - b.1, if ck_sg b = true then ck_mv a.2.2 (- b.1) else [])
noncomputable def ck_o_isub : Int → Int → Int := fun x y => x - y
noncomputable def ck_g_imul : ck_I → ck_I → ck_I := fun a b => if 0 ≤ a.1 ∧ 0 ≤ b.1 then (a.1 * b.1, a.2.1 * b.2.1, []) else ck_top
noncomputable def ck_o_imul : Int → Int → Int := fun x y => x * y
noncomputable def ck_g_iand : ck_I → ck_I → ck_I := fun a b => if 0 ≤ b.1 then (0, b.2.1, []) else if 0 ≤ a.1 then (0, a.2.1, []) else ck_top
noncomputable def ck_o_iand : Int → Int → Int := gm_and
noncomputable def ck_g_ior : ck_I → ck_I → ck_I := fun _ _ => ck_top
noncomputable def ck_o_ior : Int → Int → Int := gm_or
noncomputable def ck_g_ixor : ck_I → ck_I → ck_I := fun _ _ => ck_top
noncomputable def ck_o_ixor : Int → Int → Int := gm_xor
noncomputable def ck_g_ishl : ck_I → ck_I → ck_I := fun _ _ => ck_top
noncomputable def ck_o_ishl : Int → Int → Int := gm_shl
noncomputable def ck_g_ishr : ck_I → ck_I → ck_I := fun _ _ => ck_top
noncomputable def ck_o_ishr : Int → Int → Int := gm_shr
noncomputable def ck_g_iushr : ck_I → ck_I → ck_I := fun _ _ => ck_top
noncomputable def ck_o_iushr : Int → Int → Int := gm_ushr
noncomputable def ck_h_imul (O : gm_Or) (lx : Option Nat) (XF : List (Int × Int × ck_I)) (E : List (Nat × List ck_Sum)) (mi d n0 : Nat) (W : List (Nat × Int × Int) × List (Nat × Int)) (outs : List ck_Oc) (bc bs pc : Nat) (AL : ck_AL) (AS : ck_AS) (n : Nat) (F : ck_F) (k : Nat → Nat → Nat → ck_AL → ck_AS → Nat → ck_F → Bool) : Bool := match AS with
    | (.inl b, _) :: (.inl a, _) :: AS' => cond (ck_fk .imul a b) ((List.range (a.2.1 + 1 - a.1).toNat).all fun (q : Nat) => k bc bs (pc + 1) (ck_qL (a.1 + (q : Int), a.1 + (q : Int), []) a AL) ((.inl (ck_one (gm_w (ck_o_imul (a.1 + (q : Int)) b.1))), none) :: AS') n (ck_qF (a.1 + (q : Int), a.1 + (q : Int), []) a F)) (cond (ck_fk .imul b a) ((List.range (b.2.1 + 1 - b.1).toNat).all fun (q : Nat) => k bc bs (pc + 1) (ck_qL (b.1 + (q : Int), b.1 + (q : Int), []) b AL) ((.inl (ck_one (gm_w (ck_o_imul a.1 (b.1 + (q : Int))))), none) :: AS') n (ck_qF (b.1 + (q : Int), b.1 + (q : Int), []) b F)) (k bc bs (pc + 1) AL ((.inl (ck_b2 ck_g_imul ck_o_imul a b), ck_lks O none) :: AS') n F))
    | _ => false
noncomputable def ck_d : Instr → ck_Fn
  | .iconst z => ck_hc 1 (gm_vi z)
  | .bipush z => ck_hc 2 (gm_vi (gm_wb z))
  | .sipush z => ck_hc 3 (gm_vi (gm_ws z))
  | .lconst z => ck_hc 1 (gm_vl (z : Nat))
  | .aconst_null => ck_hc 1 (gm_vr 0)
  | .iload j => ck_hl 2 0 j
  | .iload_n j => ck_hl 1 0 j
  | .istore j => ck_hs 2 0 j
  | .istore_n j => ck_hs 1 0 j
  | .lload j => ck_hl 2 1 j
  | .lload_n j => ck_hl 1 1 j
  | .lstore j => ck_hs 2 1 j
  | .lstore_n j => ck_hs 1 1 j
  | .aload j => ck_hl 2 2 j
  | .aload_n j => ck_hl 1 2 j
  | .astore j => ck_hs 2 2 j
  | .astore_n j => ck_hs 1 2 j
  | .iadd => ck_hb (ck_sb .iadd) ck_g_iadd ck_o_iadd
  | .isub => ck_hb (ck_sb .isub) ck_g_isub ck_o_isub
  | .imul => ck_h_imul
  | .iand => ck_hb (ck_sb .iand) ck_g_iand ck_o_iand
  | .ior => ck_hb (ck_sb .ior) ck_g_ior ck_o_ior
  | .ixor => ck_hb (ck_sb .ixor) ck_g_ixor ck_o_ixor
  | .ishl => ck_hb (ck_sb .ishl) ck_g_ishl ck_o_ishl
  | .ishr => ck_hb (ck_sb .ishr) ck_g_ishr ck_o_ishr
  | .iushr => ck_hb (ck_sb .iushr) ck_g_iushr ck_o_iushr
  | .land => ck_hlb
  | .lor => ck_hlb
  | .lxor => ck_hlb
  | .lshl => ck_hls
  | .lushr => ck_hls
  | .ineg => ck_h_ineg
  | .i2b => ck_h_i2b
  | .i2l => ck_h_i2l
  | .l2i => ck_h_l2i
  | .lcmp => ck_h_lcmp
  | .idiv => ck_h_idiv
  | .irem => ck_h_irem
  | .dup => ck_h_dup
  | .pop => ck_h_pop
  | .dup2 => ck_h_dup2
  | .iinc j z => ck_h_iinc j z
  | .goto off => ck_h_goto off
  | .ifCond c off => ck_h_ifCond c off
  | .if_icmp c off => ck_h_if_icmp c off
  | .ifnull off => ck_h_ifnull off
  | .ifnonnull off => ck_h_ifnonnull off
  | .tableswitch df lo hi offs => ck_h_tableswitch df lo hi offs
  | .getfield ix => ck_h_getfield ix
  | .putfield ix => ck_h_putfield ix
  | .iaload => ck_h_iaload
  | .baload => ck_h_baload
  | .laload => ck_h_laload
  | .aaload => ck_h_aaload
  | .iastore => ck_h_iastore
  | .bastore => ck_h_bastore
  | .lastore => ck_h_lastore
  | .aastore => ck_h_aastore
  | .arraylength => ck_h_arraylength
  | .new ix => ck_h_new ix
  | .newarray at0 => ck_h_newarray at0
  | .anewarray ix => ck_h_anewarray ix
  | .ldc ix => ck_h_ldc ix
  | .ldc_w ix => ck_h_ldc_w ix
  | .ldc2_w ix => ck_h_ldc2_w ix
  | .invokestatic ix => ck_h_invokestatic ix
  | .invokevirtual ix => ck_h_invokevirtual ix
  | .invokespecial ix => ck_h_invokespecial ix
  | .ireturn => ck_h_ireturn
  | .return_ => ck_h_return
  | .areturn => ck_h_areturn
  | _ => fun _ _ _ _ _ _ _ _ _ _ _ _ _ _ _ _ _ => false
theorem ck_d_eq {i : Instr} (O : gm_Or) (lx : Option Nat) (XF : List (Int × Int × ck_I)) (E : List (Nat × List ck_Sum)) (mi d n0 : Nat) (W : List (Nat × Int × Int) × List (Nat × Int)) (outs : List ck_Oc) (bc bs pc : Nat) (AL : ck_AL) (AS : ck_AS) (n : Nat) (F : ck_F) (k : Nat → Nat → Nat → ck_AL → ck_AS → Nat → ck_F → Bool) : ck_d i O lx XF E mi d n0 W outs bc bs pc AL AS n F k = ck_i O lx XF E mi d n0 W outs bc bs pc AL AS n F k i := by
  cases i <;> rfl
/-- the int that a cut counts by: its bounds and name now -/
noncomputable def ck_loc (O : gm_Or) (c : Nat ⊕ (Nat × Int)) (AL : ck_AL) (F : ck_F) : Option ck_I := match c with
  | .inl j => (match AL[j]? with
    | some (some (.inl a)) => some a
    | _ => none)
  | .inr q => ck_rd O F q.1 q.2 q.2
/-- at the cut: what is known, the counter with its name -/
noncomputable def ck_bL (c : Nat ⊕ (Nat × Int)) (s : Nat) (a : ck_I) (AL : ck_AL) : ck_AL := match c with
  | .inl j => AL.set j (some (.inl (a.1, a.2.1, (s, 0) :: a.2.2)))
  | .inr _ => AL
noncomputable def ck_bF (c : Nat ⊕ (Nat × Int)) (s : Nat) (a : ck_I) (F : ck_F) : ck_F := match c with
  | .inl _ => F
  | .inr q => (F.1, F.2.1, (q.1, q.2, q.2, (a.1, a.2.1, (s, 0) :: a.2.2)) :: F.2.2)
/-- a stretch of code -/
noncomputable def ck_go (O : gm_Or) (lx : Option Nat) (XF : List (Int × Int × ck_I)) (E : List (Nat × List ck_Sum)) (mi d n0 : Nat) (W : List (Nat × Int × Int) × List (Nat × Int)) (outs : List ck_Oc) (cuts : List (Nat × ck_C)) : Nat → Bool → List ck_H → Nat → Nat → Nat → ck_AL → ck_AS → Nat → ck_F → Bool
  | 0, _, _, _, _, _, _, _, _, _ => false
  | f + 1, fst, ch, bc, bs, pc, AL, AS, n, F => match (if fst = true then none else cuts.find? fun q => q.1 == pc && (ck_leL AL q.2.1 && ck_leF O F q.2.2.1)) with
    | some (_, c) => AS.isEmpty && (match ck_loc O c.2.2.2.1 AL F, ck_loc O c.2.2.2.1 c.1 c.2.1 with
      | some a, some a0 => (match ch.find? fun h => h.1 == pc && h.2.1.2.2.1 == c.2.2.1 with
        | some h => (h.2.2.2.2 == n && (decide (h.2.2.1 ≤ bc) && decide (h.2.2.2.1 ≤ bs))) && ((c.2.2.1 == 0 || decide (2000000 ≤ c.2.2.1)) || (a.2.2.any fun q => (q.1 == c.2.2.1 && (decide (c.2.2.1 < 1000000) && (if c.2.2.2.2 = true then decide (0 < q.2) else decide (q.2 < 0)))) || (q.1 == c.2.2.1 + 1000000 && (decide (c.2.2.1 < 1000000) && (c.2.2.2.2 && decide (0 < q.2))))))
        | none => (decide (100 ≤ c.2.2.1 ∧ c.2.2.1 < 1000000) && ((ch.all fun h => !(h.2.1.2.2.1 == c.2.2.1) && (ck_nL c.2.2.1 h.2.1.1 && ck_nF c.2.2.1 h.2.1.2.1)) && (ck_nL c.2.2.1 c.1 && ck_nF c.2.2.1 c.2.1))) && ck_go O lx XF E mi d n0 W outs cuts f true ((pc, c, bc, bs, n) :: ch) bc bs pc (ck_bL c.2.2.2.1 c.2.2.1 a0 c.1) [] n (ck_bF c.2.2.2.1 c.2.2.1 a0 c.2.1))
      | _, _ => false)
    | none => match gm_at mi pc with
      | some i => ck_d i O lx XF E mi d n0 W outs bc bs pc AL AS n F (fun bc bs pc AL AS n F => ck_go O lx XF E mi d n0 W outs cuts f false ch bc bs pc AL AS n F)
      | none => false
/-- cuts at one place have names of their own -/
noncomputable def ck_cu (cuts : List (Nat × ck_C)) : Bool := cuts.all fun q => decide ((cuts.filter fun p => p.1 == q.1 && p.2.2.2.1 == q.2.2.2.1).length ≤ 1)
/-- a method -/
noncomputable def ck_ok (O : gm_Or) (lx : Option Nat) (XF : List (Int × Int × ck_I)) (E : List (Nat × List ck_Sum)) (mi : Nat) (cuts : List (Nat × ck_C)) (f : Nat) (S : ck_Sum) : Bool :=
  (decide (S.2.2.1.length ≤ gm_ml mi) && ck_cu cuts) && (ck_go O lx XF E mi S.1.1 S.2.1 S.2.2.2.2.1 S.2.2.2.2.2 cuts f false [] S.1.2.1 S.1.2.2 0 (S.2.2.1.map some ++ List.replicate (gm_ml mi - S.2.2.1.length) none) [] S.2.1 S.2.2.2.1)
end
/-! 21.cs -/
section
/-! THE CHECKER's bounds hold. -/
section CS
variable {σ : Nat → Int} {x y : Int} {a b : ck_I}
theorem ck_gt_none : ck_gt σ [] x := fun _ h => nomatch h
theorem ck_top_s (x : Int) : ck_gi σ ck_top (gm_w x) := ⟨gm_w_lo x, Int.le_of_lt_add_one (gm_w_hi x), ck_gt_none⟩
theorem ck_top_i (h : gm_ir x) : ck_gi σ ck_top x := ⟨h.1, Int.le_of_lt_add_one h.2, ck_gt_none⟩
theorem ck_one_s (x : Int) : ck_gi σ (ck_one x) x := ⟨Int.le_refl _, Int.le_refl _, ck_gt_none⟩
theorem ck_in_s (h : ck_gi σ a x) (hi : ck_in a = true) : gm_ir x := by
  unfold ck_in at hi
  simp only [Bool.and_eq_true, decide_eq_true_eq] at hi
  exact ⟨Int.le_trans hi.1 h.1, Int.lt_of_le_of_lt (Int.le_trans h.2.1 hi.2) (by decide)⟩
theorem ck_sg_s (h : ck_gi σ a x) (hs : ck_sg a = true) : x = a.1 := by
  unfold ck_sg at hs
  have hs := of_decide_eq_true hs
  obtain ⟨h1, h2, -⟩ := h
  omega
theorem ck_w_ir (x : Int) : gm_ir (gm_w x) := ⟨gm_w_lo x, gm_w_hi x⟩
theorem ck_nrm_s {z : Int} (h : ck_gi σ a z) : ck_gi σ (ck_nrm a) (gm_w z) := by
  unfold ck_nrm
  split
  · rename_i hi
    rw [gm_ir_w (ck_in_s h hi)]
    exact h
  · exact ck_top_s z
theorem ck_mv_s {t : List (Nat × Int)} {z : Int} (h : ck_gt σ t x) : ck_gt σ (ck_mv t z) (x + z) := by
  intro q hq
  unfold ck_mv at hq
  obtain ⟨p, hp, rfl⟩ := List.mem_map.mp hq
  have h1 := h p hp
  exact ⟨fun e => by have := h1.1 e; dsimp only; omega, fun e => by have := h1.2 e; dsimp only; omega⟩
theorem ck_im_s {t : List (Nat × Int)} {q : Nat × Int} (h : ck_im t q = true) (ht : ck_gt σ t x) : ck_g1 σ q x := by
  unfold ck_im at h
  obtain ⟨p, hp, h⟩ := List.any_eq_true.mp h
  have h4 := ht p hp
  simp only [Bool.or_eq_true, Bool.and_eq_true, beq_iff_eq, decide_eq_true_eq] at h
  rcases h with h3 | ⟨h5, h6, h7⟩
  · have e : p = q := Prod.ext h3.1 h3.2
    rw [← e]
    exact h4
  · refine ⟨fun e => by omega, fun _ => ?_⟩
    rcases h7 with h7 | ⟨h7, h8⟩
    · have h9 := h4.2 (by omega)
      rw [h7] at h9
      omega
    · have h9 := h4.1 h8
      have e : q.1 - 1000000 = p.1 := by omega
      rw [e]
      omega
theorem ck_and_s (x : Int) {y : Int} (hy : 0 ≤ y) (hi : gm_ir y) : 0 ≤ gm_and x y ∧ gm_and x y ≤ y := by
  unfold gm_and
  have h1 : (Int32.ofInt y).toInt = y := by rw [gm_w_toInt, gm_ir_w hi]
  have h2 : (Int32.ofInt x &&& Int32.ofInt y).toInt = ((Int32.ofInt x).toBitVec &&& (Int32.ofInt y).toBitVec).toInt := rfl
  rw [h2]
  have h3 : (Int32.ofInt y).toBitVec.toInt = y := h1
  have h4 := BitVec.toInt_eq_toNat_cond (Int32.ofInt y).toBitVec
  have h5 := BitVec.toInt_eq_toNat_cond ((Int32.ofInt x).toBitVec &&& (Int32.ofInt y).toBitVec)
  have h6 : ((Int32.ofInt x).toBitVec &&& (Int32.ofInt y).toBitVec).toNat ≤ (Int32.ofInt y).toBitVec.toNat := by
    rw [BitVec.toNat_and]
    exact Nat.and_le_right
  have h7 := (Int32.ofInt y).toBitVec.isLt
  rw [h3] at h4
  split at h4
  · rw [if_pos (by omega)] at h5
    omega
  · omega
theorem ck_and_c (x y : Int) : gm_and x y = gm_and y x := by
  unfold gm_and
  rw [Int32.and_comm]
theorem ck_aop_s {i : Instr} {f : Int → Int → Int} (hf : gm_bin i = some f) (ha : ck_gi σ a x) (hb : ck_gi σ b y) (hx : gm_ir x) (hy : gm_ir y) : ck_gi σ (ck_nrm (ck_aop i a b)) (gm_w (f x y)) := by
  have key : ck_gi σ (ck_nrm ck_top) (gm_w (f x y)) := by
    show ck_gi σ (if ck_in ck_top = true then ck_top else ck_top) _
    rw [ite_self]
    exact ck_top_s _
  obtain ⟨a1, a2, a3⟩ := ha
  obtain ⟨b1, b2, b3⟩ := hb
  unfold ck_aop
  split
  · cases hf
    refine ck_nrm_s ⟨Int.add_le_add a1 b1, Int.add_le_add a2 b2, ?_⟩
    show ck_gt σ (if ck_sg b = true then _ else _) _
    split
    · rename_i h
      rw [ck_sg_s ⟨b1, b2, b3⟩ h]
      exact ck_mv_s a3
    · split
      · rename_i h
        rw [ck_sg_s ⟨a1, a2, a3⟩ h]
        show ck_gt σ _ (a.1 + y)
        rw [Int.add_comm]
        exact ck_mv_s b3
      · exact ck_gt_none
  · cases hf
    refine ck_nrm_s ⟨Int.sub_le_sub a1 b2, Int.sub_le_sub a2 b1, ?_⟩
    show ck_gt σ (if ck_sg b = true then _ else _) _
    split
    · rename_i h
      rw [ck_sg_s ⟨b1, b2, b3⟩ h]
      show ck_gt σ _ (x - b.1)
      rw [Int.sub_eq_add_neg]
      exact ck_mv_s a3
    · exact ck_gt_none
  · cases hf
    split
    · rename_i h
      exact ck_nrm_s ⟨Int.mul_le_mul a1 b1 h.2 (Int.le_trans h.1 a1), Int.mul_le_mul a2 b2 (Int.le_trans h.2 b1) (Int.le_trans h.1 (Int.le_trans a1 a2)), ck_gt_none⟩
    · exact key
  · cases hf
    split
    · rename_i h
      have h1 := ck_and_s x (Int.le_trans h b1) hy
      exact ck_nrm_s ⟨h1.1, Int.le_trans h1.2 b2, ck_gt_none⟩
    · split
      · rename_i h
        have h1 := ck_and_s y (Int.le_trans h a1) hx
        rw [ck_and_c] at h1
        exact ck_nrm_s ⟨h1.1, Int.le_trans h1.2 a2, ck_gt_none⟩
      · exact key
  · exact key
theorem ck_bo_s {i : Instr} {f : Int → Int → Int} (hf : gm_bin i = some f) (ha : ck_gi σ a x) (hb : ck_gi σ b y) (hx : gm_ir x) (hy : gm_ir y) : ck_gi σ (ck_bo i f a b) (gm_w (f x y)) := by
  unfold ck_bo
  split
  · rename_i h
    rw [Bool.and_eq_true] at h
    rw [ck_sg_s ha h.1, ck_sg_s hb h.2]
    exact ck_one_s _
  · exact ck_aop_s hf ha hb hx hy
/-- what is known is enough -/
theorem ck_leI_s (h : ck_leI a b = true) (ha : ck_gi σ a x) : ck_gi σ b x := by
  rw [ck_leI_def] at h
  simp only [Bool.and_eq_true, decide_eq_true_eq] at h
  obtain ⟨⟨h1, h2⟩, h3⟩ := h
  exact ⟨Int.le_trans h1 ha.1, Int.le_trans ha.2.1 h2, fun q hq => ck_im_s (List.all_eq_true.mp h3 q hq) ha.2.2⟩
theorem ck_leA_s {A B : ck_A} {v : gm_V} (h : ck_leA A B = true) (ha : ck_ga σ A v) : ck_ga σ B v := by
  rcases A with a | a | k | k <;> rcases B with b | b | j | j <;> simp only [ck_leA, Bool.false_eq_true, beq_iff_eq] at h
  · obtain ⟨x, rfl, h1, h2⟩ := ha
    exact ⟨x, rfl, h1, ck_leI_s h h2⟩
  · obtain ⟨x, rfl, h1, h2⟩ := ha
    exact ⟨x, rfl, h1, ck_leI_s h h2⟩
  · subst h; exact ha
  · subst h; exact ha
theorem ck_leL_s : ∀ {A B : ck_AL} {L : gm_L}, ck_leL A B = true → ck_gl σ A L → ck_gl σ B L := by
  intro A
  induction A with
  | nil =>
    intro B L h hl
    cases B with
    | nil => exact hl
    | cons b B => cases b <;> cases h
  | cons a A ih =>
    intro B L h hl
    cases L with
    | nil => have := hl.1; simp at this
    | cons v L =>
      have hl2 : ck_gl σ A L := ⟨by have := hl.1; simpa using this, fun j b hb => hl.2 (j + 1) b hb⟩
      cases B with
      | nil => cases a <;> cases h
      | cons b B =>
        have hb2 : ck_gl σ B L ∧ ∀ b', b = some b' → ∃ u, v = some u ∧ ck_ga σ b' u := by
          cases b with
          | none =>
            have h2 : ck_leL A B = true := by cases a <;> exact h
            exact ⟨ih h2 hl2, fun _ e => nomatch e⟩
          | some b' =>
            cases a with
            | none => cases h
            | some a' =>
              have h2 : (ck_leA a' b' && ck_leL A B) = true := h
              rw [Bool.and_eq_true] at h2
              refine ⟨ih h2.2 hl2, fun b'' e => ?_⟩
              cases e
              obtain ⟨u, hu1, hu2⟩ := hl.2 0 a' rfl
              simp only [List.getElem?_cons_zero, Option.some.injEq] at hu1
              exact ⟨u, hu1, ck_leA_s h2.1 hu2⟩
        refine ⟨by simp [hb2.1.1], fun j c hc => ?_⟩
        cases j with
        | zero =>
          simp only [List.getElem?_cons_zero, Option.some.injEq] at hc
          obtain ⟨u, h1, h2⟩ := hb2.2 c hc
          exact ⟨u, by simp [h1], h2⟩
        | succ j =>
          simp only [List.getElem?_cons_succ] at hc ⊢
          exact hb2.1.2 j c hc
/-- a branch -/
theorem ck_rf_s {c : ClassFile.Cond} (ha : ck_gi σ a x) (hb : ck_gi σ b y) (h : gm_cm c x y) : ck_gi σ (ck_rf c a b) x := by
  obtain ⟨a1, a2, a3⟩ := ha
  obtain ⟨b1, b2, b3⟩ := hb
  cases c <;> simp only [gm_cm] at h <;> simp only [ck_rf]
  case eq => refine ⟨?_, ?_, a3⟩ <;> dsimp only <;> split <;> omega
  case ne =>
    split
    · split
      · exact ⟨by dsimp only; omega, a2, a3⟩
      · split
        · exact ⟨a1, by dsimp only; omega, a3⟩
        · exact ⟨a1, a2, a3⟩
    · exact ⟨a1, a2, a3⟩
  case lt => refine ⟨a1, ?_, a3⟩; dsimp only; split <;> omega
  case ge => refine ⟨?_, a2, a3⟩; dsimp only; split <;> omega
  case gt => refine ⟨?_, a2, a3⟩; dsimp only; split <;> omega
  case le => refine ⟨a1, ?_, a3⟩; dsimp only; split <;> omega
theorem ck_sw_s {c : ClassFile.Cond} (h : gm_cm c x y) : gm_cm (ck_sw c) y x := by
  cases c <;> simp only [gm_cm, ck_sw] at h ⊢ <;> omega
theorem ck_ng_s {c : ClassFile.Cond} (h : ¬ gm_cm c x y) : gm_cm (ck_ng c) x y := by
  cases c <;> simp only [gm_cm, ck_ng] at h ⊢ <;> omega
theorem ck_no_s (h : ck_gi σ a x) : ck_no a = false := by
  unfold ck_no
  exact decide_eq_false (by have := h.1; have := h.2.1; omega)
theorem ck_jn_l (h : ck_gi σ a x) : ck_gi σ (ck_jn a b) x := by
  obtain ⟨h1, h2, h3⟩ := h
  refine ⟨?_, ?_, fun q hq => h3 q (List.mem_filter.mp hq).1⟩
  · show (if a.1 ≤ b.1 then a.1 else b.1) ≤ x
    split <;> omega
  · show x ≤ (if a.2.1 ≤ b.2.1 then b.2.1 else a.2.1)
    split <;> omega
theorem ck_jn_r (h : ck_gi σ b x) : ck_gi σ (ck_jn a b) x := by
  obtain ⟨h1, h2, h3⟩ := h
  refine ⟨?_, ?_, fun q hq => ck_im_s (List.mem_filter.mp hq).2 h3⟩
  · show (if a.1 ≤ b.1 then a.1 else b.1) ≤ x
    split <;> omega
  · show x ≤ (if a.2.1 ≤ b.2.1 then b.2.1 else a.2.1)
    split <;> omega
end CS
end
