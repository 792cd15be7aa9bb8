/-! LISTS AND COMPARISONS BY RECURSORS: what the kernel does at once (laid by wip/rel/fck.py). -/
noncomputable def fl_if {β : Type} (b : Bool) (t e : β) : β := @Bool.rec (fun _ => β) e t b
theorem fl_and {a b : Bool} : fl_if a b false = (a && b) := by cases a <;> rfl
theorem fl_or {a b : Bool} : fl_if a true b = (a || b) := by cases a <;> rfl
theorem fl_beq {a b : Nat} : Nat.beq a b = (a == b) := by
  rw [Bool.eq_iff_iff, beq_iff_eq]
  exact ⟨Nat.eq_of_beq_eq_true, fun h => by subst h; exact Nat.beq_refl a⟩
theorem fl_blt {a b : Nat} : Nat.ble (Nat.succ a) b = decide (a < b) := by
  rw [Bool.eq_iff_iff, decide_eq_true_eq]
  exact ⟨fun h => Nat.le_of_ble_eq_true h, fun h => Nat.ble_eq_true_of_le h⟩
noncomputable def fl_le (a b : Int) : Bool := @Int.rec (fun _ => Bool) (fun m => @Int.rec (fun _ => Bool) (fun n => Nat.ble m n) (fun _ => false) b) (fun m => @Int.rec (fun _ => Bool) (fun _ => true) (fun n => Nat.ble n m) b) a
noncomputable def fl_lt (a b : Int) : Bool := @Int.rec (fun _ => Bool) (fun m => @Int.rec (fun _ => Bool) (fun n => Nat.ble (Nat.succ m) n) (fun _ => false) b) (fun m => @Int.rec (fun _ => Bool) (fun _ => true) (fun n => Nat.ble (Nat.succ n) m) b) a
noncomputable def fl_ie (a b : Int) : Bool := @Int.rec (fun _ => Bool) (fun m => @Int.rec (fun _ => Bool) (fun n => Nat.beq m n) (fun _ => false) b) (fun m => @Int.rec (fun _ => Bool) (fun _ => false) (fun n => Nat.beq n m) b) a
theorem fl_le_eq {a b : Int} : fl_le a b = decide (a ≤ b) := by
  rw [Bool.eq_iff_iff, decide_eq_true_eq]
  cases a with
  | ofNat m =>
    cases b with
    | ofNat n => exact ⟨fun h => Int.ofNat_le.mpr (Nat.le_of_ble_eq_true h), fun h => Nat.ble_eq_true_of_le (Int.ofNat_le.mp h)⟩
    | negSucc n => exact ⟨fun h => (Bool.false_ne_true h).elim, fun h => by have := Int.negSucc_lt_zero n; have h2 : (0 : Int) ≤ (m : Int) := Int.natCast_nonneg m; have h : (m : Int) ≤ Int.negSucc n := h; omega⟩
  | negSucc m =>
    cases b with
    | ofNat n => exact ⟨fun _ => by have := Int.negSucc_lt_zero m; have h2 : (0 : Int) ≤ (n : Int) := Int.natCast_nonneg n; show Int.negSucc m ≤ (n : Int); omega, fun _ => rfl⟩
    | negSucc n => exact ⟨fun h => by have h : n ≤ m := Nat.le_of_ble_eq_true h; rw [Int.negSucc_eq, Int.negSucc_eq]; omega, fun h => by rw [Int.negSucc_eq, Int.negSucc_eq] at h; exact Nat.ble_eq_true_of_le (show n ≤ m by omega)⟩
theorem fl_lt_eq {a b : Int} : fl_lt a b = decide (a < b) := by
  rw [Bool.eq_iff_iff, decide_eq_true_eq]
  cases a with
  | ofNat m =>
    cases b with
    | ofNat n => exact ⟨fun h => Int.ofNat_lt.mpr (Nat.le_of_ble_eq_true h), fun h => Nat.ble_eq_true_of_le (Int.ofNat_lt.mp h)⟩
    | negSucc n => exact ⟨fun h => (Bool.false_ne_true h).elim, fun h => by have := Int.negSucc_lt_zero n; have h2 : (0 : Int) ≤ (m : Int) := Int.natCast_nonneg m; have h : (m : Int) < Int.negSucc n := h; omega⟩
  | negSucc m =>
    cases b with
    | ofNat n => exact ⟨fun _ => by have := Int.negSucc_lt_zero m; have h2 : (0 : Int) ≤ (n : Int) := Int.natCast_nonneg n; show Int.negSucc m < (n : Int); omega, fun _ => rfl⟩
    | negSucc n => exact ⟨fun h => by have h : n < m := Nat.le_of_ble_eq_true h; rw [Int.negSucc_eq, Int.negSucc_eq]; omega, fun h => by rw [Int.negSucc_eq, Int.negSucc_eq] at h; exact Nat.ble_eq_true_of_le (show n + 1 ≤ m by omega)⟩
theorem fl_ie_eq {a b : Int} : fl_ie a b = decide (a = b) := by
  rw [Bool.eq_iff_iff, decide_eq_true_eq]
  cases a with
  | ofNat m =>
    cases b with
    | ofNat n => exact ⟨fun h => congrArg Int.ofNat (Nat.eq_of_beq_eq_true h), fun h => by cases h; exact Nat.beq_refl m⟩
    | negSucc n => exact ⟨fun h => (Bool.false_ne_true h).elim, fun h => by cases h⟩
  | negSucc m =>
    cases b with
    | ofNat n => exact ⟨fun h => (Bool.false_ne_true h).elim, fun h => by cases h⟩
    | negSucc n => exact ⟨fun h => congrArg Int.negSucc (Nat.eq_of_beq_eq_true h).symm, fun h => by cases h; exact Nat.beq_refl m⟩
noncomputable def fl_any {α : Type} (l : List α) (p : α → Bool) : Bool := @List.rec α (fun _ => Bool) false (fun a _ ih => fl_if (p a) true ih) l
noncomputable def fl_all {α : Type} (l : List α) (p : α → Bool) : Bool := @List.rec α (fun _ => Bool) true (fun a _ ih => fl_if (p a) ih false) l
noncomputable def fl_find {α : Type} (l : List α) (p : α → Bool) : Option α := @List.rec α (fun _ => Option α) none (fun a _ ih => fl_if (p a) (some a) ih) l
noncomputable def fl_lk {β : Type} (k : Nat) (l : List (Nat × β)) : Option β := @List.rec (Nat × β) (fun _ => Option β) none (fun a _ ih => fl_if (Nat.beq k a.1) (some a.2) ih) l
noncomputable def fl_nth {α : Type} (l : List α) : Nat → Option α := @List.rec α (fun _ => Nat → Option α) (fun _ => none) (fun a _ ih n => @Nat.rec (fun _ => Option α) (some a) (fun m _ => ih m) n) l
theorem fl_any_eq {α : Type} {l : List α} {p : α → Bool} : fl_any l p = l.any p := by
  induction l with
  | nil => rfl
  | cons a l ih => rw [List.any_cons, ← ih]; show fl_if (p a) true (fl_any l p) = _; exact fl_or
theorem fl_all_eq {α : Type} {l : List α} {p : α → Bool} : fl_all l p = l.all p := by
  induction l with
  | nil => rfl
  | cons a l ih => rw [List.all_cons, ← ih]; show fl_if (p a) (fl_all l p) false = _; exact fl_and
theorem fl_find_eq {α : Type} {l : List α} {p : α → Bool} : fl_find l p = l.find? p := by
  induction l with
  | nil => rfl
  | cons a l ih =>
    rw [List.find?_cons, ← ih]
    show fl_if (p a) (some a) (fl_find l p) = _
    cases p a <;> rfl
noncomputable def fl_flt {α : Type} (l : List α) (p : α → Bool) : List α := @List.rec α (fun _ => List α) [] (fun a _ ih => fl_if (p a) (a :: ih) ih) l
theorem fl_flt_eq {α : Type} {l : List α} {p : α → Bool} : fl_flt l p = l.filter p := by
  induction l with
  | nil => rfl
  | cons a l ih =>
    rw [List.filter_cons, ← ih]
    show fl_if (p a) (a :: fl_flt l p) (fl_flt l p) = _
    cases p a <;> rfl
theorem fl_lk_eq {β : Type} {k : Nat} {l : List (Nat × β)} : fl_lk k l = l.lookup k := by
  induction l with
  | nil => rfl
  | cons a l ih =>
    obtain ⟨x, y⟩ := a
    rw [List.lookup_cons, ← ih]
    show fl_if (Nat.beq k x) (some y) (fl_lk k l) = _
    rw [fl_beq]
    cases k == x <;> rfl
theorem fl_nth_eq {α : Type} : ∀ {l : List α} {n : Nat}, fl_nth l n = l[n]?
  | [], n => by rw [List.getElem?_nil]; rfl
  | a :: l, 0 => rfl
  | a :: l, n + 1 => by rw [List.getElem?_cons_succ]; exact fl_nth_eq (l := l) (n := n)
