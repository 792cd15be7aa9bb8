/-! 00a.fl -/
section
/-! LISTS AND COMPARISONS BY RECURSORS: what the kernel does at once (laid by wip/rel/fck.py). -/
noncomputable def fl_if {β : Type} (b : Bool) (t e : β) : β := @Bool.rec (fun _ => β) e t b
theorem fl_and {a b : Bool} : fl_if a b false = (a && b) := by cases a <;> rfl
theorem fl_or {a b : Bool} : fl_if a true b = (a || b) := by cases a <;> rfl
theorem fl_beq {a b : Nat} : Nat.beq a b = (a == b) := by
  rw [Bool.eq_iff_iff, beq_iff_eq]
  exact ⟨Nat.eq_of_beq_eq_true, fun h => by subst h; exact Nat.beq_refl a⟩
theorem fl_blt {a b : Nat} : Nat.ble (Nat.succ a) b = decide (a < b) := by
  rw [Bool.eq_iff_iff, decide_eq_true_eq]
  exact ⟨fun h => Nat.le_of_ble_eq_true h, fun h => Nat.ble_eq_true_of_le h⟩
noncomputable def fl_le (a b : Int) : Bool := @Int.rec (fun _ => Bool) (fun m => @Int.rec (fun _ => Bool) (fun n => Nat.ble m n) (fun _ => false) b) (fun m => @Int.rec (fun _ => Bool) (fun _ => true) (fun n => Nat.ble n m) b) a
noncomputable def fl_lt (a b : Int) : Bool := @Int.rec (fun _ => Bool) (fun m => @Int.rec (fun _ => Bool) (fun n => Nat.ble (Nat.succ m) n) (fun _ => false) b) (fun m => @Int.rec (fun _ => Bool) (fun _ => true) (fun n => Nat.ble (Nat.succ n) m) b) a
noncomputable def fl_ie (a b : Int) : Bool := @Int.rec (fun _ => Bool) (fun m => @Int.rec (fun _ => Bool) (fun n => Nat.beq m n) (fun _ => false) b) (fun m => @Int.rec (fun _ => Bool) (fun _ => false) (fun n => Nat.beq n m) b) a
theorem fl_le_eq {a b : Int} : fl_le a b = decide (a ≤ b) := by
  rw [Bool.eq_iff_iff, decide_eq_true_eq]
  cases a with
  | ofNat m =>
    cases b with
    | ofNat n => exact ⟨fun h => Int.ofNat_le.mpr (Nat.le_of_ble_eq_true h), fun h => Nat.ble_eq_true_of_le (Int.ofNat_le.mp h)⟩
    | negSucc n => exact ⟨fun h => (Bool.false_ne_true h).elim, fun h => by have := Int.negSucc_lt_zero n; have h2 : (0 : Int) ≤ (m : Int) := Int.natCast_nonneg m; have h : (m : Int) ≤ Int.negSucc n := h; omega⟩
  | negSucc m =>
    cases b with
    | ofNat n => exact ⟨fun _ => by have := Int.negSucc_lt_zero m; have h2 : (0 : Int) ≤ (n : Int) := Int.natCast_nonneg n; show Int.negSucc m ≤ (n : Int); omega, fun _ => rfl⟩
    | negSucc n => exact ⟨fun h => by have h : n ≤ m := Nat.le_of_ble_eq_true h; rw [Int.negSucc_eq, Int.negSucc_eq]; omega, fun h => by rw [Int.negSucc_eq, Int.negSucc_eq] at h; exact Nat.ble_eq_true_of_le (show n ≤ m by omega)⟩
theorem fl_lt_eq {a b : Int} : fl_lt a b = decide (a < b) := by
  rw [Bool.eq_iff_iff, decide_eq_true_eq]
  cases a with
  | ofNat m =>
    cases b with
    | ofNat n => exact ⟨fun h => Int.ofNat_lt.mpr (Nat.le_of_ble_eq_true h), fun h => Nat.ble_eq_true_of_le (Int.ofNat_lt.mp h)⟩
    | negSucc n => exact ⟨fun h => (Bool.false_ne_true h).elim, fun h => by have := Int.negSucc_lt_zero n; have h2 : (0 : Int) ≤ (m : Int) := Int.natCast_nonneg m; have h : (m : Int) < Int.negSucc n := h; omega⟩
  | negSucc m =>
    cases b with
    | ofNat n => exact ⟨fun _ => by have := Int.negSucc_lt_zero m; have h2 : (0 : Int) ≤ (n : Int) := Int.natCast_nonneg n; show Int.negSucc m < (n : Int); omega, fun _ => rfl⟩
    | negSucc n => exact ⟨fun h => by have h : n < m := Nat.le_of_ble_eq_true h; rw [Int.negSucc_eq, Int.negSucc_eq]; omega, fun h => by rw [Int.negSucc_eq, Int.negSucc_eq] at h; exact Nat.ble_eq_true_of_le (show n + 1 ≤ m by omega)⟩
theorem fl_ie_eq {a b : Int} : fl_ie a b = decide (a = b) := by
  rw [Bool.eq_iff_iff, decide_eq_true_eq]
  cases a with
  | ofNat m =>
    cases b with
    | ofNat n => exact ⟨fun h => congrArg Int.ofNat (Nat.eq_of_beq_eq_true h), fun h => by cases h; exact Nat.beq_refl m⟩
    | negSucc n => exact ⟨fun h => (Bool.false_ne_true h).elim, fun h => by cases h⟩
  | negSucc m =>
    cases b with
    | ofNat n => exact ⟨fun h => (Bool.false_ne_true h).elim, fun h => by cases h⟩
    | negSucc n => exact ⟨fun h => congrArg Int.negSucc (Nat.eq_of_beq_eq_true h).symm, fun h => by cases h; exact Nat.beq_refl m⟩
noncomputable def fl_any {α : Type} (l : List α) (p : α → Bool) : Bool := @List.rec α (fun _ => Bool) false (fun a _ ih => fl_if (p a) true ih) l
noncomputable def fl_all {α : Type} (l : List α) (p : α → Bool) : Bool := @List.rec α (fun _ => Bool) true (fun a _ ih => fl_if (p a) ih false) l
noncomputable def fl_find {α : Type} (l : List α) (p : α → Bool) : Option α := @List.rec α (fun _ => Option α) none (fun a _ ih => fl_if (p a) (some a) ih) l
noncomputable def fl_lk {β : Type} (k : Nat) (l : List (Nat × β)) : Option β := @List.rec (Nat × β) (fun _ => Option β) none (fun a _ ih => fl_if (Nat.beq k a.1) (some a.2) ih) l
noncomputable def fl_nth {α : Type} (l : List α) : Nat → Option α := @List.rec α (fun _ => Nat → Option α) (fun _ => none) (fun a _ ih n => @Nat.rec (fun _ => Option α) (some a) (fun m _ => ih m) n) l
theorem fl_any_eq {α : Type} {l : List α} {p : α → Bool} : fl_any l p = l.any p := by
  induction l with
  | nil => rfl
  | cons a l ih => rw [List.any_cons, ← ih]; show fl_if (p a) true (fl_any l p) = _; exact fl_or
theorem fl_all_eq {α : Type} {l : List α} {p : α → Bool} : fl_all l p = l.all p := by
  induction l with
  | nil => rfl
  | cons a l ih => rw [List.all_cons, ← ih]; show fl_if (p a) (fl_all l p) false = _; exact fl_and
theorem fl_find_eq {α : Type} {l : List α} {p : α → Bool} : fl_find l p = l.find? p := by
  induction l with
  | nil => rfl
  | cons a l ih =>
    rw [List.find?_cons, ← ih]
    show fl_if (p a) (some a) (fl_find l p) = _
    cases p a <;> rfl
noncomputable def fl_flt {α : Type} (l : List α) (p : α → Bool) : List α := @List.rec α (fun _ => List α) [] (fun a _ ih => fl_if (p a) (a :: ih) ih) l
theorem fl_flt_eq {α : Type} {l : List α} {p : α → Bool} : fl_flt l p = l.filter p := by
  induction l with
  | nil => rfl
  | cons a l ih =>
    rw [List.filter_cons, ← ih]
    show fl_if (p a) (a :: fl_flt l p) (fl_flt l p) = _
    cases p a <;> rfl
theorem fl_lk_eq {β : Type} {k : Nat} {l : List (Nat × β)} : fl_lk k l = l.lookup k := by
  induction l with
  | nil => rfl
  | cons a l ih =>
    obtain ⟨x, y⟩ := a
    rw [List.lookup_cons, ← ih]
    show fl_if (Nat.beq k x) (some y) (fl_lk k l) = _
    rw [fl_beq]
    cases k == x <;> rfl
theorem fl_nth_eq {α : Type} : ∀ {l : List α} {n : Nat}, fl_nth l n = l[n]?
  | [], n => by rw [List.getElem?_nil]; rfl
  | a :: l, 0 => rfl
  | a :: l, n + 1 => by rw [List.getElem?_cons_succ]; exact fl_nth_eq (l := l) (n := n)
noncomputable def fl_lki {β : Type} (k : Int) (l : List (Int × β)) : Option β := @List.rec (Int × β) (fun _ => Option β) none (fun a _ ih => fl_if (fl_ie k a.1) (some a.2) ih) l
theorem fl_lki_eq {β : Type} {k : Int} {l : List (Int × β)} : fl_lki k l = l.lookup k := by
  induction l with
  | nil => rfl
  | cons a l ih =>
    obtain ⟨x, y⟩ := a
    rw [List.lookup_cons, ← ih]
    show fl_if (fl_ie k x) (some y) (fl_lki k l) = _
    rw [fl_ie_eq]
    by_cases e : k = x
    · rw [decide_eq_true e, show (k == x) = true by simpa using e]; rfl
    · rw [decide_eq_false e, show (k == x) = false by simpa using e]; rfl
/-- two bounds put together -/
noncomputable def fl_tj (r : Int × Int × Int × Int) (q : Option (Int × Int)) : Option (Int × Int) := @Option.rec (Int × Int) (fun _ => Option (Int × Int)) none (fun q => some (fl_if (fl_le r.2.2.1 q.1) r.2.2.1 q.1, fl_if (fl_le r.2.2.2 q.2) q.2 r.2.2.2)) q
/-- what the types say of a stretch, in one walk over types that stand in their order -/
noncomputable def fl_ty (hi : Int) (l : List (Int × Int × Int × Int)) : Int → Option (Int × Int) := @List.rec (Int × Int × Int × Int) (fun _ => Int → Option (Int × Int)) (fun _ => none) (fun r _ ih lo => fl_if (fl_if (fl_le r.1 lo) (fl_le lo r.2.1) false) (fl_if (fl_le hi r.2.1) (some (r.2.2.1, r.2.2.2)) (fl_tj r (ih (r.2.1 + 1)))) (ih lo)) l
end
/-! 01.tab -/
section
/-! TABLES of this claim, laid by wip/am/gen_tables.py out of the task folder: class names, classes of which objects are made, methods, fields, calls. -/
noncomputable def gm_rnl : List String := ["GlacierMail", "GlacierMail$State", "GlacierMail$Rows", "GlacierMail$History", "GlacierMail$Ice", "java/util/Arrays", "java/lang/Math", "GlacierMail$Way", "GlacierMail$Answers", "GlacierMail$ValleyReader", "GlacierMail$TextReader", "GlacierMail$Words", "GlacierMail$LawReader", "GlacierMail$Law", "java/lang/Integer", "GlacierMailLaw", "java/lang/String", "java/lang/StringLatin1", "jdk/internal/util/Preconditions", "java/lang/StringUTF16", "GlacierMailModel"]
noncomputable def gm_rn (i : Nat) : String := (gm_rnl[i]?).getD ""
noncomputable def gm_T0 : u_T := fun k => match k with
  | 0 => ("GlacierMail", "tape", "[B", true)
  | 1 => ("GlacierMail", "tapeLength", "I", false)
  | 2 => ("GlacierMail", "wrongByte", "I", false)
  | 3 => ("GlacierMail", "told", "LGlacierMail$State;", true)
  | 4 => ("GlacierMail", "draft", "LGlacierMail$State;", true)
  | 5 => ("GlacierMail", "image", "LGlacierMail$State;", true)
  | 6 => ("GlacierMail", "imageKept", "Z", false)
  | 7 => ("GlacierMail", "history", "LGlacierMail$History;", true)
  | 8 => ("GlacierMail", "ice", "LGlacierMail$Ice;", true)
  | 9 => ("GlacierMail", "way", "LGlacierMail$Way;", true)
  | 10 => ("GlacierMail", "otherWay", "LGlacierMail$Way;", true)
  | 11 => ("GlacierMail", "answers", "LGlacierMail$Answers;", true)
  | 12 => ("GlacierMail", "valleyReader", "LGlacierMail$ValleyReader;", true)
  | 13 => ("GlacierMail", "lawReader", "LGlacierMail$LawReader;", true)
  | 14 => ("GlacierMail", "ends", "LGlacierMail$Rows;", true)
  | 15 => ("GlacierMail", "endsKnown", "Z", false)
  | 16 => ("GlacierMail", "came", "LGlacierMail$Rows;", true)
  | _ => ("GlacierMail", "taken", "LGlacierMail$Rows;", true)
noncomputable def gm_ty0 : Nat → FieldType := fun k => match k with
  | 0 => (.array .byte)
  | 1 => .int
  | 2 => .int
  | 3 => (.object "GlacierMail$State")
  | 4 => (.object "GlacierMail$State")
  | 5 => (.object "GlacierMail$State")
  | 6 => .boolean
  | 7 => (.object "GlacierMail$History")
  | 8 => (.object "GlacierMail$Ice")
  | 9 => (.object "GlacierMail$Way")
  | 10 => (.object "GlacierMail$Way")
  | 11 => (.object "GlacierMail$Answers")
  | 12 => (.object "GlacierMail$ValleyReader")
  | 13 => (.object "GlacierMail$LawReader")
  | 14 => (.object "GlacierMail$Rows")
  | 15 => .boolean
  | 16 => (.object "GlacierMail$Rows")
  | _ => (.object "GlacierMail$Rows")
theorem gm_nm0 : ∀ a, a < 18 → ∀ b, b < 18 → a ≠ b → (gm_T0 a).2.1 ≠ (gm_T0 b).2.1 := by decide +kernel
theorem gm_tk0 : ∀ k, k < 18 → parseFieldDescriptor (gm_T0 k).2.2.1 = some (gm_ty0 k) := by decide +kernel
noncomputable def gm_T1 : u_T := fun k => match k with
  | 0 => ("GlacierMail$State", "lanes", "I", false)
  | 1 => ("GlacierMail$State", "last", "I", false)
  | 2 => ("GlacierMail$State", "snow", "I", false)
  | 3 => ("GlacierMail$State", "fall", "I", false)
  | 4 => ("GlacierMail$State", "stripe", "I", false)
  | 5 => ("GlacierMail$State", "seed", "I", false)
  | 6 => ("GlacierMail$State", "now", "I", false)
  | 7 => ("GlacierMail$State", "texts", "I", false)
  | 8 => ("GlacierMail$State", "law", "LGlacierMail$Law;", false)
  | 9 => ("GlacierMail$State", "sections", "LGlacierMail$Rows;", true)
  | 10 => ("GlacierMail$State", "floods", "LGlacierMail$Rows;", true)
  | 11 => ("GlacierMail$State", "people", "LGlacierMail$Rows;", true)
  | 12 => ("GlacierMail$State", "letters", "LGlacierMail$Rows;", true)
  | 13 => ("GlacierMail$State", "tables", "LGlacierMail$Rows;", true)
  | _ => ("GlacierMail$State", "openings", "LGlacierMail$Rows;", true)
noncomputable def gm_ty1 : Nat → FieldType := fun k => match k with
  | 0 => .int
  | 1 => .int
  | 2 => .int
  | 3 => .int
  | 4 => .int
  | 5 => .int
  | 6 => .int
  | 7 => .int
  | 8 => (.object "GlacierMail$Law")
  | 9 => (.object "GlacierMail$Rows")
  | 10 => (.object "GlacierMail$Rows")
  | 11 => (.object "GlacierMail$Rows")
  | 12 => (.object "GlacierMail$Rows")
  | 13 => (.object "GlacierMail$Rows")
  | _ => (.object "GlacierMail$Rows")
theorem gm_nm1 : ∀ a, a < 15 → ∀ b, b < 15 → a ≠ b → (gm_T1 a).2.1 ≠ (gm_T1 b).2.1 := by decide +kernel
theorem gm_tk1 : ∀ k, k < 15 → parseFieldDescriptor (gm_T1 k).2.2.1 = some (gm_ty1 k) := by decide +kernel
noncomputable def gm_T2 : u_T := fun k => match k with
  | 0 => ("GlacierMail$Rows", "most", "I", true)
  | 1 => ("GlacierMail$Rows", "width", "I", true)
  | 2 => ("GlacierMail$Rows", "cells", "[I", true)
  | _ => ("GlacierMail$Rows", "size", "I", false)
noncomputable def gm_ty2 : Nat → FieldType := fun k => match k with
  | 0 => .int
  | 1 => .int
  | 2 => (.array .int)
  | _ => .int
theorem gm_nm2 : ∀ a, a < 4 → ∀ b, b < 4 → a ≠ b → (gm_T2 a).2.1 ≠ (gm_T2 b).2.1 := by decide +kernel
theorem gm_tk2 : ∀ k, k < 4 → parseFieldDescriptor (gm_T2 k).2.2.1 = some (gm_ty2 k) := by decide +kernel
noncomputable def gm_T3 : u_T := fun k => match k with
  | 0 => ("GlacierMail$History", "ahead", "[LGlacierMail$State;", true)
  | 1 => ("GlacierMail$History", "next", "I", false)
  | _ => ("GlacierMail$History", "size", "I", false)
noncomputable def gm_ty3 : Nat → FieldType := fun k => match k with
  | 0 => (.array (.object "GlacierMail$State"))
  | 1 => .int
  | _ => .int
theorem gm_nm3 : ∀ a, a < 3 → ∀ b, b < 3 → a ≠ b → (gm_T3 a).2.1 ≠ (gm_T3 b).2.1 := by decide +kernel
theorem gm_tk3 : ∀ k, k < 3 → parseFieldDescriptor (gm_T3 k).2.2.1 = some (gm_ty3 k) := by decide +kernel
noncomputable def gm_T4 : u_T := fun k => match k with
  | 0 => ("GlacierMail$Ice", "told", "LGlacierMail$State;", true)
  | 1 => ("GlacierMail$Ice", "heats", "[I", true)
  | 2 => ("GlacierMail$Ice", "speeds", "[I", true)
  | 3 => ("GlacierMail$Ice", "floods", "[I", true)
  | 4 => ("GlacierMail$Ice", "facts", "[I", true)
  | 5 => ("GlacierMail$Ice", "flows", "[J", true)
  | _ => ("GlacierMail$Ice", "flowsForgotten", "Z", false)
noncomputable def gm_ty4 : Nat → FieldType := fun k => match k with
  | 0 => (.object "GlacierMail$State")
  | 1 => (.array .int)
  | 2 => (.array .int)
  | 3 => (.array .int)
  | 4 => (.array .int)
  | 5 => (.array .long)
  | _ => .boolean
theorem gm_nm4 : ∀ a, a < 7 → ∀ b, b < 7 → a ≠ b → (gm_T4 a).2.1 ≠ (gm_T4 b).2.1 := by decide +kernel
theorem gm_tk4 : ∀ k, k < 7 → parseFieldDescriptor (gm_T4 k).2.2.1 = some (gm_ty4 k) := by decide +kernel
noncomputable def gm_T5 : u_T := fun k => match k with
  | 0 => ("GlacierMail$Way", "told", "LGlacierMail$State;", true)
  | 1 => ("GlacierMail$Way", "ice", "LGlacierMail$Ice;", true)
  | 2 => ("GlacierMail$Way", "lane", "I", false)
  | 3 => ("GlacierMail$Way", "rock", "Z", false)
  | 4 => ("GlacierMail$Way", "leftOut", "I", false)
  | 5 => ("GlacierMail$Way", "row", "I", false)
  | 6 => ("GlacierMail$Way", "deep", "I", false)
  | 7 => ("GlacierMail$Way", "year", "I", false)
  | _ => ("GlacierMail$Way", "moved", "I", false)
noncomputable def gm_ty5 : Nat → FieldType := fun k => match k with
  | 0 => (.object "GlacierMail$State")
  | 1 => (.object "GlacierMail$Ice")
  | 2 => .int
  | 3 => .boolean
  | 4 => .int
  | 5 => .int
  | 6 => .int
  | 7 => .int
  | _ => .int
theorem gm_nm5 : ∀ a, a < 9 → ∀ b, b < 9 → a ≠ b → (gm_T5 a).2.1 ≠ (gm_T5 b).2.1 := by decide +kernel
theorem gm_tk5 : ∀ k, k < 9 → parseFieldDescriptor (gm_T5 k).2.2.1 = some (gm_ty5 k) := by decide +kernel
noncomputable def gm_T6 : u_T := fun k => match k with
  | 0 => ("GlacierMail$Answers", "told", "LGlacierMail$State;", true)
  | 1 => ("GlacierMail$Answers", "way", "LGlacierMail$Way;", true)
  | 2 => ("GlacierMail$Answers", "had", "LGlacierMail$Rows;", true)
  | _ => ("GlacierMail$Answers", "outs", "LGlacierMail$Rows;", true)
noncomputable def gm_ty6 : Nat → FieldType := fun k => match k with
  | 0 => (.object "GlacierMail$State")
  | 1 => (.object "GlacierMail$Way")
  | 2 => (.object "GlacierMail$Rows")
  | _ => (.object "GlacierMail$Rows")
theorem gm_nm6 : ∀ a, a < 4 → ∀ b, b < 4 → a ≠ b → (gm_T6 a).2.1 ≠ (gm_T6 b).2.1 := by decide +kernel
theorem gm_tk6 : ∀ k, k < 4 → parseFieldDescriptor (gm_T6 k).2.2.1 = some (gm_ty6 k) := by decide +kernel
noncomputable def gm_T7 : u_T := fun k => match k with
  | 0 => ("GlacierMail$TextReader", "words", "LGlacierMail$Words;", true)
  | 1 => ("GlacierMail$TextReader", "mostLines", "I", true)
  | _ => ("GlacierMail$ValleyReader", "draft", "LGlacierMail$State;", true)
noncomputable def gm_ty7 : Nat → FieldType := fun k => match k with
  | 0 => (.object "GlacierMail$Words")
  | 1 => .int
  | _ => (.object "GlacierMail$State")
theorem gm_nm7 : ∀ a, a < 3 → ∀ b, b < 3 → a ≠ b → (gm_T7 a).2.1 ≠ (gm_T7 b).2.1 := by decide +kernel
theorem gm_tk7 : ∀ k, k < 3 → parseFieldDescriptor (gm_T7 k).2.2.1 = some (gm_ty7 k) := by decide +kernel
noncomputable def gm_T8 : u_T := fun k => match k with
  | 0 => ("GlacierMail$Words", "text", "[B", true)
  | 1 => ("GlacierMail$Words", "mostDigits", "I", true)
  | 2 => ("GlacierMail$Words", "length", "I", false)
  | 3 => ("GlacierMail$Words", "place", "I", false)
  | 4 => ("GlacierMail$Words", "begin", "I", false)
  | 5 => ("GlacierMail$Words", "wrong", "I", false)
  | 6 => ("GlacierMail$Words", "kind", "I", false)
  | _ => ("GlacierMail$Words", "value", "I", false)
noncomputable def gm_ty8 : Nat → FieldType := fun k => match k with
  | 0 => (.array .byte)
  | 1 => .int
  | 2 => .int
  | 3 => .int
  | 4 => .int
  | 5 => .int
  | 6 => .int
  | _ => .int
theorem gm_nm8 : ∀ a, a < 8 → ∀ b, b < 8 → a ≠ b → (gm_T8 a).2.1 ≠ (gm_T8 b).2.1 := by decide +kernel
theorem gm_tk8 : ∀ k, k < 8 → parseFieldDescriptor (gm_T8 k).2.2.1 = some (gm_ty8 k) := by decide +kernel
noncomputable def gm_T9 : u_T := fun k => match k with
  | 0 => ("GlacierMail$TextReader", "words", "LGlacierMail$Words;", true)
  | 1 => ("GlacierMail$TextReader", "mostLines", "I", true)
  | 2 => ("GlacierMail$LawReader", "lines", "LGlacierMail$Rows;", true)
  | 3 => ("GlacierMail$LawReader", "codes", "[I", true)
  | _ => ("GlacierMail$LawReader", "used", "I", false)
noncomputable def gm_ty9 : Nat → FieldType := fun k => match k with
  | 0 => (.object "GlacierMail$Words")
  | 1 => .int
  | 2 => (.object "GlacierMail$Rows")
  | 3 => (.array .int)
  | _ => .int
theorem gm_nm9 : ∀ a, a < 5 → ∀ b, b < 5 → a ≠ b → (gm_T9 a).2.1 ≠ (gm_T9 b).2.1 := by decide +kernel
theorem gm_tk9 : ∀ k, k < 5 → parseFieldDescriptor (gm_T9 k).2.2.1 = some (gm_ty9 k) := by decide +kernel
noncomputable def gm_T10 : u_T := fun k => match k with
  | 0 => ("GlacierMail$Law", "lines", "LGlacierMail$Rows;", true)
  | _ => ("GlacierMail$Law", "codes", "[I", true)
noncomputable def gm_ty10 : Nat → FieldType := fun k => match k with
  | 0 => (.object "GlacierMail$Rows")
  | _ => (.array .int)
theorem gm_nm10 : ∀ a, a < 2 → ∀ b, b < 2 → a ≠ b → (gm_T10 a).2.1 ≠ (gm_T10 b).2.1 := by decide +kernel
theorem gm_tk10 : ∀ k, k < 2 → parseFieldDescriptor (gm_T10 k).2.2.1 = some (gm_ty10 k) := by decide +kernel
noncomputable def gm_T11 : u_T := fun k => match k with
  | 0 => ("GlacierMailModel", "thrown", "I", false)
  | 1 => ("GlacierMailModel", "world", "[I", true)
  | 2 => ("GlacierMailModel", "image", "[I", true)
  | 3 => ("GlacierMailModel", "before", "[I", true)
  | 4 => ("GlacierMailModel", "acts", "[I", true)
  | 5 => ("GlacierMailModel", "hasImage", "Z", false)
  | 6 => ("GlacierMailModel", "remembered", "I", false)
  | 7 => ("GlacierMailModel", "tape", "[B", true)
  | 8 => ("GlacierMailModel", "taped", "I", false)
  | 9 => ("GlacierMailModel", "point", "I", false)
  | 10 => ("GlacierMailModel", "end", "I", false)
  | 11 => ("GlacierMailModel", "begin", "I", false)
  | 12 => ("GlacierMailModel", "deep", "I", false)
  | 13 => ("GlacierMailModel", "faultAt", "I", false)
  | 14 => ("GlacierMailModel", "five", "[I", true)
  | 15 => ("GlacierMailModel", "steps", "I", false)
  | 16 => ("GlacierMailModel", "value", "[I", true)
  | 17 => ("GlacierMailModel", "itsLane", "I", false)
  | 18 => ("GlacierMailModel", "itsRow", "I", false)
  | 19 => ("GlacierMailModel", "itsYear", "I", false)
  | 20 => ("GlacierMailModel", "itsSpeed", "I", false)
  | 21 => ("GlacierMailModel", "itsPerson", "I", false)
  | 22 => ("GlacierMailModel", "itsAge", "I", false)
  | 23 => ("GlacierMailModel", "itsDepth", "I", false)
  | 24 => ("GlacierMailModel", "heats", "[I", true)
  | 25 => ("GlacierMailModel", "flows", "[B", true)
  | 26 => ("GlacierMailModel", "flowing", "I", false)
  | 27 => ("GlacierMailModel", "rows", "[I", true)
  | 28 => ("GlacierMailModel", "depths", "[I", true)
  | 29 => ("GlacierMailModel", "out", "I", false)
  | 30 => ("GlacierMailModel", "moved", "I", false)
  | 31 => ("GlacierMailModel", "outs", "[I", true)
  | 32 => ("GlacierMailModel", "otherRows", "[I", true)
  | 33 => ("GlacierMailModel", "throwing", "[I", true)
  | 34 => ("GlacierMailModel", "having", "[I", true)
  | 35 => ("GlacierMailModel", "outYear", "[I", true)
  | 36 => ("GlacierMailModel", "backYear", "I", false)
  | 37 => ("GlacierMailModel", "loot", "[I", true)
  | _ => ("GlacierMailModel", "more", "[I", true)
noncomputable def gm_ty11 : Nat → FieldType := fun k => match k with
  | 0 => .int
  | 1 => (.array .int)
  | 2 => (.array .int)
  | 3 => (.array .int)
  | 4 => (.array .int)
  | 5 => .boolean
  | 6 => .int
  | 7 => (.array .byte)
  | 8 => .int
  | 9 => .int
  | 10 => .int
  | 11 => .int
  | 12 => .int
  | 13 => .int
  | 14 => (.array .int)
  | 15 => .int
  | 16 => (.array .int)
  | 17 => .int
  | 18 => .int
  | 19 => .int
  | 20 => .int
  | 21 => .int
  | 22 => .int
  | 23 => .int
  | 24 => (.array .int)
  | 25 => (.array .byte)
  | 26 => .int
  | 27 => (.array .int)
  | 28 => (.array .int)
  | 29 => .int
  | 30 => .int
  | 31 => (.array .int)
  | 32 => (.array .int)
  | 33 => (.array .int)
  | 34 => (.array .int)
  | 35 => (.array .int)
  | 36 => .int
  | 37 => (.array .int)
  | _ => (.array .int)
theorem gm_nm11 : ∀ a, a < 39 → ∀ b, b < 39 → a ≠ b → (gm_T11 a).2.1 ≠ (gm_T11 b).2.1 := by decide +kernel
theorem gm_tk11 : ∀ k, k < 39 → parseFieldDescriptor (gm_T11 k).2.2.1 = some (gm_ty11 k) := by decide +kernel
noncomputable abbrev gm_cs : List vw_C := [("GlacierMail", gm_T0, 18), ("GlacierMail$State", gm_T1, 15), ("GlacierMail$Rows", gm_T2, 4), ("GlacierMail$History", gm_T3, 3), ("GlacierMail$Ice", gm_T4, 7), ("GlacierMail$Way", gm_T5, 9), ("GlacierMail$Answers", gm_T6, 4), ("GlacierMail$ValleyReader", gm_T7, 3), ("GlacierMail$Words", gm_T8, 8), ("GlacierMail$LawReader", gm_T9, 5), ("GlacierMail$Law", gm_T10, 2), ("GlacierMailModel", gm_T11, 39)]
/-- by class number: how many fields; is the field a reference; its type; may it be written once alone -/
noncomputable def gm_nf (c : Nat) : Nat := ([18, 15, 4, 3, 7, 9, 4, 3, 8, 5, 2, 39][c]?).getD 0
noncomputable def gm_isr (c j : Nat) : Bool := bif Nat.ble 64 j then false else Nat.beq (Nat.land (Nat.shiftRight 0x6f9b01409e0000000000000003000000000000000d00000000000000010000000000000005000000000000000f0000000000000003000000000000003f000000000000000100000000000000040000000000007f000000000000037fb9 (Nat.add (Nat.mul 64 c) j)) 1) 1
noncomputable def gm_fin (c j : Nat) : Bool := ((([[true, false, false, true, true, true, false, true, true, true, true, true, true, true, true, false, true, true], [false, false, false, false, false, false, false, false, false, true, true, true, true, true, true], [true, true, true, false], [true, false, false], [true, true, true, true, true, true, false], [true, true, false, false, false, false, false, false, false], [true, true, true, true], [true, true, true], [true, true, false, false, false, false, false, false], [true, true, true, true, false], [true, true], [false, true, true, true, true, false, false, true, false, false, false, false, false, false, true, false, true, false, false, false, false, false, false, false, true, true, false, true, true, false, false, true, true, true, true, true, false, true, true]] : List (List Bool))[c]?).getD [])[j]?.getD false
noncomputable def gm_tyl : List (Nat → FieldType) := [gm_ty0, gm_ty1, gm_ty2, gm_ty3, gm_ty4, gm_ty5, gm_ty6, gm_ty7, gm_ty8, gm_ty9, gm_ty10, gm_ty11]
noncomputable def gm_mn (i : Nat) : MethodName := bif Nat.ble 371 i then ⟨"", "", ""⟩ else (bif Nat.ble 185 i then (bif Nat.ble 278 i then (bif Nat.ble 324 i then (bif Nat.ble 347 i then (bif Nat.ble 359 i then (bif Nat.ble 365 i then (bif Nat.ble 368 i then (bif Nat.ble 369 i then (bif Nat.ble 370 i then ⟨"GlacierMailLaw", "law", "([I)Z"⟩ else ⟨"GlacierMailModel", "thrown", "()I"⟩) else ⟨"GlacierMailModel", "count", "(I)I"⟩) else (bif Nat.ble 366 i then (bif Nat.ble 367 i then ⟨"GlacierMailModel", "log", "(II)I"⟩ else ⟨"GlacierMailModel", "bare", "(I)I"⟩) else ⟨"GlacierMailModel", "swiftest", "(II)I"⟩)) else (bif Nat.ble 362 i then (bif Nat.ble 363 i then (bif Nat.ble 364 i then ⟨"GlacierMailModel", "range", "(II)I"⟩ else ⟨"GlacierMailModel", "streams", "(IZ)I"⟩) else ⟨"GlacierMailModel", "order", "(I)I"⟩) else (bif Nat.ble 360 i then (bif Nat.ble 361 i then ⟨"GlacierMailModel", "outs", "(I)I"⟩ else ⟨"GlacierMailModel", "meeting", "(II)I"⟩) else ⟨"GlacierMailModel", "watchman", "(IZ)I"⟩))) else (bif Nat.ble 353 i then (bif Nat.ble 356 i then (bif Nat.ble 357 i then (bif Nat.ble 358 i then ⟨"GlacierMailModel", "steals", "(I)V"⟩ else ⟨"GlacierMailModel", "thieves", "(IZ)I"⟩) else ⟨"GlacierMailModel", "reached", "(II)I"⟩) else (bif Nat.ble 354 i then (bif Nat.ble 355 i then ⟨"GlacierMailModel", "thrower", "(III)I"⟩ else ⟨"GlacierMailModel", "chain", "(III)I"⟩) else ⟨"GlacierMailModel", "hasIn", "(I)I"⟩)) else (bif Nat.ble 350 i then (bif Nat.ble 351 i then (bif Nat.ble 352 i then ⟨"GlacierMailModel", "isWatching", "(II)Z"⟩ else ⟨"GlacierMailModel", "at", "(II)I"⟩) else ⟨"GlacierMailModel", "answers", "(I)V"⟩) else (bif Nat.ble 348 i then (bif Nat.ble 349 i then ⟨"GlacierMailModel", "soonest", "(IIZ)I"⟩ else ⟨"GlacierMailModel", "fit", "()I"⟩) else ⟨"GlacierMailModel", "poles", "()I"⟩)))) else (bif Nat.ble 335 i then (bif Nat.ble 341 i then (bif Nat.ble 344 i then (bif Nat.ble 345 i then (bif Nat.ble 346 i then ⟨"GlacierMailModel", "has", "(II)Z"⟩ else ⟨"GlacierMailModel", "areApart", "(III)Z"⟩) else ⟨"GlacierMailModel", "apart", "(III)Z"⟩) else (bif Nat.ble 342 i then (bif Nat.ble 343 i then ⟨"GlacierMailModel", "ofTable", "(II)I"⟩ else ⟨"GlacierMailModel", "noTable", "(I)Z"⟩) else ⟨"GlacierMailModel", "table", "(II)I"⟩)) else (bif Nat.ble 338 i then (bif Nat.ble 339 i then (bif Nat.ble 340 i then ⟨"GlacierMailModel", "wrote", "(IIII)I"⟩ else ⟨"GlacierMailModel", "wroteIn", "(IIII)I"⟩) else ⟨"GlacierMailModel", "writers", "(III)I"⟩) else (bif Nat.ble 336 i then (bif Nat.ble 337 i then ⟨"GlacierMailModel", "isOtherInIce", "(I)Z"⟩ else ⟨"GlacierMailModel", "isPassing", "(I)Z"⟩) else ⟨"GlacierMailModel", "keepsRows", "()V"⟩))) else (bif Nat.ble 329 i then (bif Nat.ble 332 i then (bif Nat.ble 333 i then (bif Nat.ble 334 i then ⟨"GlacierMailModel", "passes", "(I)I"⟩ else ⟨"GlacierMailModel", "outsIn", "(IIZ)I"⟩) else ⟨"GlacierMailModel", "outsAll", "()V"⟩) else (bif Nat.ble 330 i then (bif Nat.ble 331 i then ⟨"GlacierMailModel", "market", "(Z)I"⟩ else ⟨"GlacierMailModel", "lost", "()I"⟩) else ⟨"GlacierMailModel", "moved", "(I)I"⟩)) else (bif Nat.ble 326 i then (bif Nat.ble 327 i then (bif Nat.ble 328 i then ⟨"GlacierMailModel", "without", "(II)I"⟩ else ⟨"GlacierMailModel", "hut", "(II)I"⟩) else ⟨"GlacierMailModel", "latest", "(II)I"⟩) else (bif Nat.ble 325 i then ⟨"GlacierMailModel", "outFrom", "(III)I"⟩ else ⟨"GlacierMailModel", "throwsFor", "(IIII)I"⟩))))) else (bif Nat.ble 301 i then (bif Nat.ble 312 i then (bif Nat.ble 318 i then (bif Nat.ble 321 i then (bif Nat.ble 322 i then (bif Nat.ble 323 i then ⟨"GlacierMailModel", "mayOpen", "(II)Z"⟩ else ⟨"GlacierMailModel", "opener", "(I)I"⟩) else ⟨"GlacierMailModel", "year", "()I"⟩) else (bif Nat.ble 319 i then (bif Nat.ble 320 i then ⟨"GlacierMailModel", "years", "(I)I"⟩ else ⟨"GlacierMailModel", "opens", "(II)V"⟩) else ⟨"GlacierMailModel", "open", "(I)I"⟩)) else (bif Nat.ble 315 i then (bif Nat.ble 316 i then (bif Nat.ble 317 i then ⟨"GlacierMailModel", "watch", "(II)I"⟩ else ⟨"GlacierMailModel", "remembers", "()V"⟩) else ⟨"GlacierMailModel", "post", "(II)I"⟩) else (bif Nat.ble 313 i then (bif Nat.ble 314 i then ⟨"GlacierMailModel", "deep", "(II)I"⟩ else ⟨"GlacierMailModel", "where", "(II)I"⟩) else ⟨"GlacierMailModel", "isInIce", "(I)Z"⟩))) else (bif Nat.ble 306 i then (bif Nat.ble 309 i then (bif Nat.ble 310 i then (bif Nat.ble 311 i then ⟨"GlacierMailModel", "isBare", "(II)Z"⟩ else ⟨"GlacierMailModel", "bareFrom", "(I)I"⟩) else ⟨"GlacierMailModel", "noLetter", "(I)Z"⟩) else (bif Nat.ble 307 i then (bif Nat.ble 308 i then ⟨"GlacierMailModel", "letter", "(II)I"⟩ else ⟨"GlacierMailModel", "floods", "(III)I"⟩) else ⟨"GlacierMailModel", "runs", "(IIIZI)V"⟩)) else (bif Nat.ble 303 i then (bif Nat.ble 304 i then (bif Nat.ble 305 i then ⟨"GlacierMailModel", "runsLetter", "(II)V"⟩ else ⟨"GlacierMailModel", "outOf", "(I)I"⟩) else ⟨"GlacierMailModel", "isRock", "(I)Z"⟩) else (bif Nat.ble 302 i then ⟨"GlacierMailModel", "isWaiting", "(I)Z"⟩ else ⟨"GlacierMailModel", "ofLetter", "(II)I"⟩)))) else (bif Nat.ble 289 i then (bif Nat.ble 295 i then (bif Nat.ble 298 i then (bif Nat.ble 299 i then (bif Nat.ble 300 i then ⟨"GlacierMailModel", "countOf", "(II)I"⟩ else ⟨"GlacierMailModel", "of", "(II)I"⟩) else ⟨"GlacierMailModel", "noPerson", "(I)Z"⟩) else (bif Nat.ble 296 i then (bif Nat.ble 297 i then ⟨"GlacierMailModel", "person", "(II)I"⟩ else ⟨"GlacierMailModel", "factOf", "(II)I"⟩) else ⟨"GlacierMailModel", "holdsLine", "(I)Z"⟩)) else (bif Nat.ble 292 i then (bif Nat.ble 293 i then (bif Nat.ble 294 i then ⟨"GlacierMailModel", "sumOf", "(I)I"⟩ else ⟨"GlacierMailModel", "turnsTo", "(I)V"⟩) else ⟨"GlacierMailModel", "flowAt", "(III)I"⟩) else (bif Nat.ble 290 i then (bif Nat.ble 291 i then ⟨"GlacierMailModel", "flow", "(III)I"⟩ else ⟨"GlacierMailModel", "speedAt", "(II)I"⟩) else ⟨"GlacierMailModel", "noRow", "(I)Z"⟩))) else (bif Nat.ble 283 i then (bif Nat.ble 286 i then (bif Nat.ble 287 i then (bif Nat.ble 288 i then ⟨"GlacierMailModel", "noLane", "(I)Z"⟩ else ⟨"GlacierMailModel", "speed", "(II)I"⟩) else ⟨"GlacierMailModel", "in", "(III)Z"⟩) else (bif Nat.ble 284 i then (bif Nat.ble 285 i then ⟨"GlacierMailModel", "noYear", "(I)Z"⟩ else ⟨"GlacierMailModel", "heat", "(I)I"⟩) else ⟨"GlacierMailModel", "law", "()I"⟩)) else (bif Nat.ble 280 i then (bif Nat.ble 281 i then (bif Nat.ble 282 i then ⟨"GlacierMailModel", "throwsIf", "(ZI)Z"⟩ else ⟨"GlacierMailModel", "readPart", "()Z"⟩) else ⟨"GlacierMailModel", "readSum", "()Z"⟩) else (bif Nat.ble 279 i then ⟨"GlacierMailModel", "emits", "(II)V"⟩ else ⟨"GlacierMailModel", "sign", "(I)Z"⟩)))))) else (bif Nat.ble 231 i then (bif Nat.ble 254 i then (bif Nat.ble 266 i then (bif Nat.ble 272 i then (bif Nat.ble 275 i then (bif Nat.ble 276 i then (bif Nat.ble 277 i then ⟨"GlacierMailModel", "readAtom", "()Z"⟩ else ⟨"GlacierMailModel", "readAllOf", "()Z"⟩) else ⟨"GlacierMailModel", "readCond", "()Z"⟩) else (bif Nat.ble 273 i then (bif Nat.ble 274 i then ⟨"GlacierMailModel", "readLawLine", "(I)Z"⟩ else ⟨"GlacierMailModel", "readTable", "()Z"⟩) else ⟨"GlacierMailModel", "setsLetter", "(III)V"⟩)) else (bif Nat.ble 269 i then (bif Nat.ble 270 i then (bif Nat.ble 271 i then ⟨"GlacierMailModel", "throwsIn", "(IIII)V"⟩ else ⟨"GlacierMailModel", "readRock", "()Z"⟩) else ⟨"GlacierMailModel", "isNext", "(Ljava/lang/String;)Z"⟩) else (bif Nat.ble 267 i then (bif Nat.ble 268 i then ⟨"GlacierMailModel", "laneTold", "()I"⟩ else ⟨"GlacierMailModel", "readPerson", "()Z"⟩) else ⟨"GlacierMailModel", "now", "()I"⟩))) else (bif Nat.ble 260 i then (bif Nat.ble 263 i then (bif Nat.ble 264 i then (bif Nat.ble 265 i then ⟨"GlacierMailModel", "readFlood", "()Z"⟩ else ⟨"GlacierMailModel", "after", "(Ljava/lang/String;II)I"⟩) else ⟨"GlacierMailModel", "rowTold", "()I"⟩) else (bif Nat.ble 261 i then (bif Nat.ble 262 i then ⟨"GlacierMailModel", "readSnow", "()Z"⟩ else ⟨"GlacierMailModel", "lanes", "()I"⟩) else ⟨"GlacierMailModel", "readSpeeds", "(I)Z"⟩)) else (bif Nat.ble 257 i then (bif Nat.ble 258 i then (bif Nat.ble 259 i then ⟨"GlacierMailModel", "lip", "()I"⟩ else ⟨"GlacierMailModel", "readSection", "()Z"⟩) else ⟨"GlacierMailModel", "readLast", "()Z"⟩) else (bif Nat.ble 255 i then (bif Nat.ble 256 i then ⟨"GlacierMailModel", "figures", "(III)I"⟩ else ⟨"GlacierMailModel", "number", "(II)I"⟩) else ⟨"GlacierMailModel", "letters", "()I"⟩)))) else (bif Nat.ble 242 i then (bif Nat.ble 248 i then (bif Nat.ble 251 i then (bif Nat.ble 252 i then (bif Nat.ble 253 i then ⟨"GlacierMailModel", "people", "()I"⟩ else ⟨"GlacierMailModel", "isEmpty", "()Z"⟩) else ⟨"GlacierMailModel", "readLanes", "()Z"⟩) else (bif Nat.ble 249 i then (bif Nat.ble 250 i then ⟨"GlacierMailModel", "isWord", "(Ljava/lang/String;)Z"⟩ else ⟨"GlacierMailModel", "readValleyLine", "()Z"⟩) else ⟨"GlacierMailModel", "letterRow", "()V"⟩)) else (bif Nat.ble 245 i then (bif Nat.ble 246 i then (bif Nat.ble 247 i then ⟨"GlacierMailModel", "readLine", "(ZI)Z"⟩ else ⟨"GlacierMailModel", "isAt", "(II)Z"⟩) else ⟨"GlacierMailModel", "blanks", "()V"⟩) else (bif Nat.ble 243 i then (bif Nat.ble 244 i then ⟨"GlacierMailModel", "uses", "()V"⟩ else ⟨"GlacierMailModel", "readAll", "(Z)I"⟩) else ⟨"GlacierMailModel", "valley", "()I"⟩))) else (bif Nat.ble 236 i then (bif Nat.ble 239 i then (bif Nat.ble 240 i then (bif Nat.ble 241 i then ⟨"GlacierMailModel", "fault", "()I"⟩ else ⟨"GlacierMailModel", "end", "(I)Z"⟩) else ⟨"GlacierMailModel", "feed", "(IIIII)I"⟩) else (bif Nat.ble 237 i then (bif Nat.ble 238 i then ⟨"GlacierMailModel", "undo", "()Z"⟩ else ⟨"GlacierMailModel", "back", "()Z"⟩) else ⟨"GlacierMailModel", "image", "()V"⟩)) else (bif Nat.ble 233 i then (bif Nat.ble 234 i then (bif Nat.ble 235 i then ⟨"GlacierMailModel", "warms", "()V"⟩ else ⟨"GlacierMailModel", "<init>", "()V"⟩) else ⟨"GlacierMail", "log", "(II)I"⟩) else (bif Nat.ble 232 i then ⟨"GlacierMailLaw", "log", "(LGlacierMail;II[J)I"⟩ else ⟨"GlacierMail", "bare", "(I)I"⟩))))) else (bif Nat.ble 208 i then (bif Nat.ble 219 i then (bif Nat.ble 225 i then (bif Nat.ble 228 i then (bif Nat.ble 229 i then (bif Nat.ble 230 i then ⟨"GlacierMailLaw", "bare", "(LGlacierMail;I[J)I"⟩ else ⟨"GlacierMail", "swiftest", "(II)I"⟩) else ⟨"GlacierMailLaw", "swiftest", "(LGlacierMail;II[J)I"⟩) else (bif Nat.ble 226 i then (bif Nat.ble 227 i then ⟨"GlacierMail", "range", "(II)I"⟩ else ⟨"GlacierMailLaw", "range", "(LGlacierMail;II[J)I"⟩) else ⟨"GlacierMail", "streams", "(IZ)I"⟩)) else (bif Nat.ble 222 i then (bif Nat.ble 223 i then (bif Nat.ble 224 i then ⟨"GlacierMailLaw", "streams", "(LGlacierMail;IZ[J)I"⟩ else ⟨"GlacierMail", "outs", "(I)I"⟩) else ⟨"GlacierMailLaw", "outs", "(LGlacierMail;I[J)I"⟩) else (bif Nat.ble 220 i then (bif Nat.ble 221 i then ⟨"GlacierMail", "meeting", "(II)I"⟩ else ⟨"GlacierMailLaw", "meeting", "(LGlacierMail;II[J)I"⟩) else ⟨"GlacierMail", "mostBeside", "(II)I"⟩))) else (bif Nat.ble 213 i then (bif Nat.ble 216 i then (bif Nat.ble 217 i then (bif Nat.ble 218 i then ⟨"GlacierMail", "watchman", "(IZ)I"⟩ else ⟨"GlacierMailLaw", "watchman", "(LGlacierMail;IZ[J)I"⟩) else ⟨"GlacierMail", "bestNext", "(II)I"⟩) else (bif Nat.ble 214 i then (bif Nat.ble 215 i then ⟨"GlacierMail", "reckonCame", "(I)V"⟩ else ⟨"GlacierMail", "needThiefYears", "(I)V"⟩) else ⟨"GlacierMail", "thieves", "(IZ)I"⟩)) else (bif Nat.ble 210 i then (bif Nat.ble 211 i then (bif Nat.ble 212 i then ⟨"GlacierMailLaw", "thieves", "(LGlacierMail;IZ[J)I"⟩ else ⟨"GlacierMail", "reached", "(II)I"⟩) else ⟨"GlacierMailLaw", "reached", "(LGlacierMail;II[J)I"⟩) else (bif Nat.ble 209 i then ⟨"GlacierMail$Answers", "throwAhead", "(III)I"⟩ else ⟨"GlacierMail$Answers", "holder", "(III)I"⟩)))) else (bif Nat.ble 196 i then (bif Nat.ble 202 i then (bif Nat.ble 205 i then (bif Nat.ble 206 i then (bif Nat.ble 207 i then ⟨"GlacierMail", "chain", "(III)I"⟩ else ⟨"GlacierMailLaw", "chain", "(LGlacierMail;III[J)I"⟩) else ⟨"GlacierMail$Answers", "fewestThrows", "(II)I"⟩) else (bif Nat.ble 203 i then (bif Nat.ble 204 i then ⟨"GlacierMail$Answers", "firstYear", "(I)I"⟩ else ⟨"GlacierMail$Answers", "throwAgain", "(IIII)V"⟩) else ⟨"GlacierMail$Answers", "spread", "(III)V"⟩)) else (bif Nat.ble 199 i then (bif Nat.ble 200 i then (bif Nat.ble 201 i then ⟨"GlacierMail", "soonest", "(IIZ)I"⟩ else ⟨"GlacierMailLaw", "soonest", "(LGlacierMail;IIZ[J)I"⟩) else ⟨"GlacierMail", "fitsReadings", "(II)Z"⟩) else (bif Nat.ble 197 i then (bif Nat.ble 198 i then ⟨"GlacierMail", "areReadings", "(I)Z"⟩ else ⟨"GlacierMail", "fit", "()I"⟩) else ⟨"GlacierMailLaw", "fit", "(LGlacierMail;[J)I"⟩))) else (bif Nat.ble 190 i then (bif Nat.ble 193 i then (bif Nat.ble 194 i then (bif Nat.ble 195 i then ⟨"GlacierMail", "apart", "(III)Z"⟩ else ⟨"GlacierMailLaw", "apart", "(LGlacierMail;III[J)I"⟩) else ⟨"GlacierMail", "needTable", "(I)V"⟩) else (bif Nat.ble 191 i then (bif Nat.ble 192 i then ⟨"GlacierMail", "table", "(II)I"⟩ else ⟨"GlacierMailLaw", "table", "(LGlacierMail;II[J)I"⟩) else ⟨"GlacierMail", "wrote", "(IIII)I"⟩)) else (bif Nat.ble 187 i then (bif Nat.ble 188 i then (bif Nat.ble 189 i then ⟨"GlacierMailLaw", "wrote", "(LGlacierMail;IIII[J)I"⟩ else ⟨"GlacierMail", "latestWriting", "(IIII)I"⟩) else ⟨"GlacierMail", "needFind", "(II)V"⟩) else (bif Nat.ble 186 i then ⟨"GlacierMail", "writers", "(III)I"⟩ else ⟨"GlacierMailLaw", "writers", "(LGlacierMail;III[J)I"⟩))))))) else (bif Nat.ble 92 i then (bif Nat.ble 138 i then (bif Nat.ble 161 i then (bif Nat.ble 173 i then (bif Nat.ble 179 i then (bif Nat.ble 182 i then (bif Nat.ble 183 i then (bif Nat.ble 184 i then ⟨"GlacierMail", "stepBoth", "()V"⟩ else ⟨"GlacierMail", "bothInIce", "()Z"⟩) else ⟨"GlacierMail", "startBoth", "(III)I"⟩) else (bif Nat.ble 180 i then (bif Nat.ble 181 i then ⟨"GlacierMail", "passesBy", "(II)Z"⟩ else ⟨"GlacierMail", "sameLane", "(II)Z"⟩) else ⟨"GlacierMail", "passes", "(I)I"⟩)) else (bif Nat.ble 176 i then (bif Nat.ble 177 i then (bif Nat.ble 178 i then ⟨"GlacierMailLaw", "passes", "(LGlacierMail;I[J)I"⟩ else ⟨"GlacierMail", "moved", "(I)I"⟩) else ⟨"GlacierMailLaw", "moved", "(LGlacierMail;I[J)I"⟩) else (bif Nat.ble 174 i then (bif Nat.ble 175 i then ⟨"GlacierMail$Way", "leaveOut", "(I)V"⟩ else ⟨"GlacierMail", "without", "(II)I"⟩) else ⟨"GlacierMailLaw", "without", "(LGlacierMail;II[J)I"⟩))) else (bif Nat.ble 167 i then (bif Nat.ble 170 i then (bif Nat.ble 171 i then (bif Nat.ble 172 i then ⟨"GlacierMail", "hut", "(II)I"⟩ else ⟨"GlacierMailLaw", "hut", "(LGlacierMail;II[J)I"⟩) else ⟨"GlacierMail$Way", "startHut", "(II)V"⟩) else (bif Nat.ble 168 i then (bif Nat.ble 169 i then ⟨"GlacierMail", "latest", "(II)I"⟩ else ⟨"GlacierMailLaw", "latest", "(LGlacierMail;II[J)I"⟩) else ⟨"GlacierMail", "throwsFor", "(IIII)I"⟩)) else (bif Nat.ble 164 i then (bif Nat.ble 165 i then (bif Nat.ble 166 i then ⟨"GlacierMailLaw", "throwsFor", "(LGlacierMail;IIII[J)I"⟩ else ⟨"GlacierMail$Law", "letsOpen", "([I)Z"⟩) else ⟨"GlacierMail$Ice", "mayOpen", "(IIII)Z"⟩) else (bif Nat.ble 162 i then (bif Nat.ble 163 i then ⟨"GlacierMail", "openerOf", "(I)I"⟩ else ⟨"GlacierMail", "oneYearMore", "()I"⟩) else ⟨"GlacierMail", "years", "(I)I"⟩)))) else (bif Nat.ble 149 i then (bif Nat.ble 155 i then (bif Nat.ble 158 i then (bif Nat.ble 159 i then (bif Nat.ble 160 i then ⟨"GlacierMailLaw", "years", "(LGlacierMail;I[J)I"⟩ else ⟨"GlacierMail$State", "openLetter", "(II)V"⟩) else ⟨"GlacierMail", "open", "(I)I"⟩) else (bif Nat.ble 156 i then (bif Nat.ble 157 i then ⟨"GlacierMailLaw", "open", "(LGlacierMail;I[J)I"⟩ else ⟨"GlacierMail", "watch", "(II)I"⟩) else ⟨"GlacierMailLaw", "watch", "(LGlacierMail;II[J)I"⟩)) else (bif Nat.ble 152 i then (bif Nat.ble 153 i then (bif Nat.ble 154 i then ⟨"GlacierMail$History", "remember", "(LGlacierMail$State;)V"⟩ else ⟨"GlacierMail", "needUnlike", "(II)V"⟩) else ⟨"GlacierMail", "post", "(II)I"⟩) else (bif Nat.ble 150 i then (bif Nat.ble 151 i then ⟨"GlacierMailLaw", "post", "(LGlacierMail;II[J)I"⟩ else ⟨"GlacierMail", "deep", "(II)I"⟩) else ⟨"GlacierMailLaw", "deep", "(LGlacierMail;II[J)I"⟩))) else (bif Nat.ble 143 i then (bif Nat.ble 146 i then (bif Nat.ble 147 i then (bif Nat.ble 148 i then ⟨"GlacierMail$Way", "goOnTo", "(I)V"⟩ else ⟨"GlacierMail", "where", "(II)I"⟩) else ⟨"GlacierMailLaw", "where", "(LGlacierMail;II[J)I"⟩) else (bif Nat.ble 144 i then (bif Nat.ble 145 i then ⟨"GlacierMail", "firstBare", "(I)I"⟩ else ⟨"GlacierMail", "outOf", "(I)I"⟩) else ⟨"GlacierMail", "needLetter", "(I)V"⟩)) else (bif Nat.ble 140 i then (bif Nat.ble 141 i then (bif Nat.ble 142 i then ⟨"GlacierMail", "letter", "(II)I"⟩ else ⟨"GlacierMailLaw", "letter", "(LGlacierMail;II[J)I"⟩) else ⟨"GlacierMail", "lettersWith", "(II)I"⟩) else (bif Nat.ble 139 i then ⟨"GlacierMail", "needPerson", "(I)V"⟩ else ⟨"GlacierMail", "person", "(II)I"⟩))))) else (bif Nat.ble 115 i then (bif Nat.ble 126 i then (bif Nat.ble 132 i then (bif Nat.ble 135 i then (bif Nat.ble 136 i then (bif Nat.ble 137 i then ⟨"GlacierMailLaw", "person", "(LGlacierMail;II[J)I"⟩ else ⟨"GlacierMail", "flow", "(III)I"⟩) else ⟨"GlacierMailLaw", "flow", "(LGlacierMail;III[J)I"⟩) else (bif Nat.ble 133 i then (bif Nat.ble 134 i then ⟨"GlacierMail", "needRow", "(I)V"⟩ else ⟨"GlacierMail", "need", "(II)V"⟩) else ⟨"GlacierMail", "needLane", "(I)V"⟩)) else (bif Nat.ble 129 i then (bif Nat.ble 130 i then (bif Nat.ble 131 i then ⟨"GlacierMail", "speed", "(II)I"⟩ else ⟨"GlacierMailLaw", "speed", "(LGlacierMail;II[J)I"⟩) else ⟨"GlacierMail", "needYear", "(I)V"⟩) else (bif Nat.ble 127 i then (bif Nat.ble 128 i then ⟨"GlacierMail", "heat", "(I)I"⟩ else ⟨"GlacierMailLaw", "heat", "(LGlacierMail;I[J)I"⟩) else ⟨"GlacierMail$Law", "<init>", "(LGlacierMail$Rows;[I)V"⟩))) else (bif Nat.ble 120 i then (bif Nat.ble 123 i then (bif Nat.ble 124 i then (bif Nat.ble 125 i then ⟨"java/util/Arrays", "copyOf", "([II)[I"⟩ else ⟨"GlacierMail$LawReader", "makeLaw", "()LGlacierMail$Law;"⟩) else ⟨"GlacierMail", "law", "()I"⟩) else (bif Nat.ble 121 i then (bif Nat.ble 122 i then ⟨"GlacierMailLaw", "law", "(LGlacierMail;[J)I"⟩ else ⟨"GlacierMail$Words", "wrong", "()I"⟩) else ⟨"GlacierMail$ValleyReader", "readTable", "()Z"⟩)) else (bif Nat.ble 117 i then (bif Nat.ble 118 i then (bif Nat.ble 119 i then ⟨"GlacierMail$State", "throwIn", "(IIII)I"⟩ else ⟨"GlacierMail$ValleyReader", "readRock", "()Z"⟩) else ⟨"GlacierMail$ValleyReader", "readLane", "()I"⟩) else (bif Nat.ble 116 i then ⟨"GlacierMail$ValleyReader", "readPerson", "()Z"⟩ else ⟨"GlacierMail$ValleyReader", "readFlood", "()Z"⟩)))) else (bif Nat.ble 103 i then (bif Nat.ble 109 i then (bif Nat.ble 112 i then (bif Nat.ble 113 i then (bif Nat.ble 114 i then ⟨"GlacierMail$ValleyReader", "readSeed", "()Z"⟩ else ⟨"GlacierMail$ValleyReader", "readStripe", "()Z"⟩) else ⟨"GlacierMail$Words", "needWord", "(Ljava/lang/String;)Z"⟩) else (bif Nat.ble 110 i then (bif Nat.ble 111 i then ⟨"GlacierMail$ValleyReader", "readRow", "()I"⟩ else ⟨"GlacierMail$ValleyReader", "readSnow", "()Z"⟩) else ⟨"GlacierMail$ValleyReader", "readSpeeds", "(LGlacierMail$Rows;II)Z"⟩)) else (bif Nat.ble 106 i then (bif Nat.ble 107 i then (bif Nat.ble 108 i then ⟨"GlacierMail$Rows", "isFull", "()Z"⟩ else ⟨"GlacierMail$ValleyReader", "readSection", "()Z"⟩) else ⟨"GlacierMail$ValleyReader", "readLast", "()Z"⟩) else (bif Nat.ble 104 i then (bif Nat.ble 105 i then ⟨"GlacierMail$State", "isEmpty", "()Z"⟩ else ⟨"GlacierMail$ValleyReader", "readLanes", "()Z"⟩) else ⟨"GlacierMail$ValleyReader", "readLine", "()Z"⟩))) else (bif Nat.ble 97 i then (bif Nat.ble 100 i then (bif Nat.ble 101 i then (bif Nat.ble 102 i then ⟨"GlacierMail$Rows", "add", "()I"⟩ else ⟨"GlacierMail$LawReader", "factCode", "()I"⟩) else ⟨"GlacierMail$LawReader", "readSum", "()Z"⟩) else (bif Nat.ble 98 i then (bif Nat.ble 99 i then ⟨"GlacierMail$LawReader", "put", "(I)V"⟩ else ⟨"GlacierMail$Words", "needSign", "(C)Z"⟩) else ⟨"GlacierMail$LawReader", "readAtom", "(I)Z"⟩)) else (bif Nat.ble 94 i then (bif Nat.ble 95 i then (bif Nat.ble 96 i then ⟨"GlacierMail$LawReader", "readCondition", "(I)Z"⟩ else ⟨"GlacierMail$Words", "takeWord", "(Ljava/lang/String;)Z"⟩) else ⟨"GlacierMail$Words", "needNumber", "(II)I"⟩) else (bif Nat.ble 93 i then ⟨"GlacierMail$Words", "refuse", "()Z"⟩ else ⟨"java/lang/StringUTF16", "getChar", "([BI)C"⟩)))))) else (bif Nat.ble 46 i then (bif Nat.ble 69 i then (bif Nat.ble 80 i then (bif Nat.ble 86 i then (bif Nat.ble 89 i then (bif Nat.ble 90 i then (bif Nat.ble 91 i then ⟨"java/lang/StringUTF16", "length", "([B)I"⟩ else ⟨"java/lang/StringUTF16", "checkIndex", "(I[B)V"⟩) else ⟨"java/lang/StringUTF16", "charAt", "([BI)C"⟩) else (bif Nat.ble 87 i then (bif Nat.ble 88 i then ⟨"jdk/internal/util/Preconditions", "checkIndex", "(IILjava/util/function/BiFunction;)I"⟩ else ⟨"java/lang/String", "checkIndex", "(II)V"⟩) else ⟨"java/lang/StringLatin1", "charAt", "([BI)C"⟩)) else (bif Nat.ble 83 i then (bif Nat.ble 84 i then (bif Nat.ble 85 i then ⟨"java/lang/String", "isLatin1", "()Z"⟩ else ⟨"java/lang/String", "charAt", "(I)C"⟩) else ⟨"java/lang/String", "coder", "()B"⟩) else (bif Nat.ble 81 i then (bif Nat.ble 82 i then ⟨"java/lang/String", "length", "()I"⟩ else ⟨"GlacierMail$Words", "isWord", "(Ljava/lang/String;)Z"⟩) else ⟨"GlacierMail$LawReader", "readKind", "()I"⟩))) else (bif Nat.ble 74 i then (bif Nat.ble 77 i then (bif Nat.ble 78 i then (bif Nat.ble 79 i then ⟨"GlacierMail$LawReader", "readLine", "()Z"⟩ else ⟨"GlacierMail$Words", "isDigit", "(B)Z"⟩) else ⟨"GlacierMail$Words", "isSmall", "(B)Z"⟩) else (bif Nat.ble 75 i then (bif Nat.ble 76 i then ⟨"GlacierMail$Words", "next", "()V"⟩ else ⟨"GlacierMail$Words", "start", "(I)V"⟩) else ⟨"GlacierMail$ValleyReader", "clear", "()V"⟩)) else (bif Nat.ble 71 i then (bif Nat.ble 72 i then (bif Nat.ble 73 i then ⟨"GlacierMail$LawReader", "clear", "()V"⟩ else ⟨"GlacierMail$TextReader", "readText", "(I)I"⟩) else ⟨"GlacierMail", "valley", "()I"⟩) else (bif Nat.ble 70 i then ⟨"GlacierMailLaw", "valley", "(LGlacierMail;[J)I"⟩ else ⟨"GlacierMail$History", "size", "()I"⟩)))) else (bif Nat.ble 57 i then (bif Nat.ble 63 i then (bif Nat.ble 66 i then (bif Nat.ble 67 i then (bif Nat.ble 68 i then ⟨"GlacierMail", "inIceNow", "()I"⟩ else ⟨"GlacierMail", "isOutBy", "(II)Z"⟩) else ⟨"GlacierMail", "waits", "(I)Z"⟩) else (bif Nat.ble 64 i then (bif Nat.ble 65 i then ⟨"GlacierMail", "waiting", "(I)I"⟩ else ⟨"GlacierMail", "lawLines", "()I"⟩) else ⟨"GlacierMail", "count", "(I)I"⟩)) else (bif Nat.ble 60 i then (bif Nat.ble 61 i then (bif Nat.ble 62 i then ⟨"GlacierMail$History", "forget", "()V"⟩ else ⟨"GlacierMail", "forgetWays", "()V"⟩) else ⟨"GlacierMail", "back", "()Z"⟩) else (bif Nat.ble 58 i then (bif Nat.ble 59 i then ⟨"GlacierMail", "image", "()V"⟩ else ⟨"GlacierMail$Rows", "copyFrom", "(LGlacierMail$Rows;)V"⟩) else ⟨"GlacierMail$State", "copyFrom", "(LGlacierMail$State;)V"⟩))) else (bif Nat.ble 51 i then (bif Nat.ble 54 i then (bif Nat.ble 55 i then (bif Nat.ble 56 i then ⟨"GlacierMail$History", "at", "(I)LGlacierMail$State;"⟩ else ⟨"GlacierMail$History", "takeBack", "(LGlacierMail$State;)Z"⟩) else ⟨"GlacierMail", "undo", "()Z"⟩) else (bif Nat.ble 52 i then (bif Nat.ble 53 i then ⟨"GlacierMail", "outAheadOf", "(I)I"⟩ else ⟨"GlacierMail", "order", "(I)I"⟩) else ⟨"GlacierMail", "toldApart", "(III)Z"⟩)) else (bif Nat.ble 48 i then (bif Nat.ble 49 i then (bif Nat.ble 50 i then ⟨"GlacierMail", "allToldApart", "(I)Z"⟩ else ⟨"java/lang/Integer", "bitCount", "(I)I"⟩) else ⟨"GlacierMail", "poles", "()I"⟩) else (bif Nat.ble 47 i then ⟨"GlacierMail", "outIn", "(IZ)I"⟩ else ⟨"GlacierMail", "market", "(Z)I"⟩))))) else (bif Nat.ble 23 i then (bif Nat.ble 34 i then (bif Nat.ble 40 i then (bif Nat.ble 43 i then (bif Nat.ble 44 i then (bif Nat.ble 45 i then ⟨"GlacierMail$Rows", "put", "(III)V"⟩ else ⟨"GlacierMail$Ice", "floodsIn", "(I)I"⟩) else ⟨"GlacierMail$Way", "takeFloods", "()V"⟩) else (bif Nat.ble 41 i then (bif Nat.ble 42 i then ⟨"GlacierMail$Ice", "keepFlow", "(II)V"⟩ else ⟨"GlacierMail$Law", "holds", "(II[I)Z"⟩) else ⟨"GlacierMail$Law", "faster", "([I)I"⟩)) else (bif Nat.ble 37 i then (bif Nat.ble 38 i then (bif Nat.ble 39 i then ⟨"GlacierMail$Ice", "setFacts", "(IIII)V"⟩ else ⟨"java/util/Arrays", "fill", "([JJ)V"⟩) else ⟨"GlacierMail$Ice", "recalledFlow", "(I)I"⟩) else (bif Nat.ble 35 i then (bif Nat.ble 36 i then ⟨"GlacierMail$Ice", "speedAt", "(II)I"⟩ else ⟨"GlacierMail$Ice", "flowAt", "(III)I"⟩) else ⟨"GlacierMail$Ice", "heatIn", "(I)I"⟩))) else (bif Nat.ble 28 i then (bif Nat.ble 31 i then (bif Nat.ble 32 i then (bif Nat.ble 33 i then ⟨"GlacierMail$Way", "deepAfter", "()I"⟩ else ⟨"GlacierMail$Way", "step", "()V"⟩) else ⟨"GlacierMail$Way", "isOut", "()Z"⟩) else (bif Nat.ble 29 i then (bif Nat.ble 30 i then ⟨"GlacierMail$Way", "runOut", "(I)I"⟩ else ⟨"GlacierMail$Way", "start", "(IIIZ)V"⟩) else ⟨"GlacierMail$State", "isRock", "(I)Z"⟩)) else (bif Nat.ble 25 i then (bif Nat.ble 26 i then (bif Nat.ble 27 i then ⟨"GlacierMail$Way", "startLetter", "(I)V"⟩ else ⟨"java/lang/Math", "min", "(II)I"⟩) else ⟨"GlacierMail$Rows", "reset", "(I)V"⟩) else (bif Nat.ble 24 i then ⟨"GlacierMail", "reckonEnds", "()V"⟩ else ⟨"GlacierMail", "lost", "()I"⟩)))) else (bif Nat.ble 11 i then (bif Nat.ble 17 i then (bif Nat.ble 20 i then (bif Nat.ble 21 i then (bif Nat.ble 22 i then ⟨"GlacierMail", "fault", "()I"⟩ else ⟨"GlacierMail", "end", "(I)Z"⟩) else ⟨"GlacierMail", "putNumber", "(I)V"⟩) else (bif Nat.ble 18 i then (bif Nat.ble 19 i then ⟨"GlacierMail", "feed", "(IIIII)I"⟩ else ⟨"GlacierMail$LawReader", "<init>", "([B)V"⟩) else ⟨"GlacierMail$Words", "<init>", "([BI)V"⟩)) else (bif Nat.ble 14 i then (bif Nat.ble 15 i then (bif Nat.ble 16 i then ⟨"GlacierMail$TextReader", "<init>", "([BII)V"⟩ else ⟨"GlacierMail$ValleyReader", "<init>", "([BLGlacierMail$State;)V"⟩) else ⟨"GlacierMail$Answers", "<init>", "(LGlacierMail$State;LGlacierMail$Way;)V"⟩) else (bif Nat.ble 12 i then (bif Nat.ble 13 i then ⟨"GlacierMail$Way", "<init>", "(LGlacierMail$State;LGlacierMail$Ice;)V"⟩ else ⟨"GlacierMail$Ice", "reckonFloods", "()V"⟩) else ⟨"java/lang/Math", "max", "(II)I"⟩))) else (bif Nat.ble 5 i then (bif Nat.ble 8 i then (bif Nat.ble 9 i then (bif Nat.ble 10 i then ⟨"GlacierMail$Rows", "get", "(II)I"⟩ else ⟨"GlacierMail$Rows", "size", "()I"⟩) else ⟨"java/util/Arrays", "fill", "([II)V"⟩) else (bif Nat.ble 6 i then (bif Nat.ble 7 i then ⟨"GlacierMail$Ice", "reckonSpeeds", "()V"⟩ else ⟨"GlacierMail$Ice", "reckonHeats", "()V"⟩) else ⟨"GlacierMail$Ice", "renew", "()V"⟩)) else (bif Nat.ble 2 i then (bif Nat.ble 3 i then (bif Nat.ble 4 i then ⟨"GlacierMail$Ice", "<init>", "(LGlacierMail$State;)V"⟩ else ⟨"GlacierMail$History", "<init>", "()V"⟩) else ⟨"GlacierMail$Rows", "<init>", "(II)V"⟩) else (bif Nat.ble 1 i then ⟨"GlacierMail$State", "<init>", "()V"⟩ else ⟨"GlacierMail", "<init>", "()V"⟩))))))))
noncomputable def gm_bc (i : Nat) : ByteArray := bif Nat.ble 371 i then ⟨#[]⟩ else (bif Nat.ble 185 i then (bif Nat.ble 278 i then (bif Nat.ble 324 i then (bif Nat.ble 347 i then (bif Nat.ble 359 i then (bif Nat.ble 365 i then (bif Nat.ble 368 i then (bif Nat.ble 369 i then (bif Nat.ble 370 i then code else prog_14_method_1_code) else prog_14_method_136_code) else (bif Nat.ble 366 i then (bif Nat.ble 367 i then prog_14_method_135_code else prog_14_method_134_code) else prog_14_method_133_code)) else (bif Nat.ble 362 i then (bif Nat.ble 363 i then (bif Nat.ble 364 i then prog_14_method_132_code else prog_14_method_131_code) else prog_14_method_130_code) else (bif Nat.ble 360 i then (bif Nat.ble 361 i then prog_14_method_129_code else prog_14_method_128_code) else prog_14_method_127_code))) else (bif Nat.ble 353 i then (bif Nat.ble 356 i then (bif Nat.ble 357 i then (bif Nat.ble 358 i then prog_14_method_125_code else prog_14_method_126_code) else prog_14_method_124_code) else (bif Nat.ble 354 i then (bif Nat.ble 355 i then prog_14_method_122_code else prog_14_method_123_code) else prog_14_method_120_code)) else (bif Nat.ble 350 i then (bif Nat.ble 351 i then (bif Nat.ble 352 i then prog_14_method_118_code else prog_14_method_117_code) else prog_14_method_119_code) else (bif Nat.ble 348 i then (bif Nat.ble 349 i then prog_14_method_121_code else prog_14_method_116_code) else prog_14_method_115_code)))) else (bif Nat.ble 335 i then (bif Nat.ble 341 i then (bif Nat.ble 344 i then (bif Nat.ble 345 i then (bif Nat.ble 346 i then prog_14_method_4_code else prog_14_method_113_code) else prog_14_method_114_code) else (bif Nat.ble 342 i then (bif Nat.ble 343 i then prog_14_method_110_code else prog_14_method_111_code) else prog_14_method_112_code)) else (bif Nat.ble 338 i then (bif Nat.ble 339 i then (bif Nat.ble 340 i then prog_14_method_109_code else prog_14_method_107_code) else prog_14_method_108_code) else (bif Nat.ble 336 i then (bif Nat.ble 337 i then prog_14_method_104_code else prog_14_method_105_code) else prog_14_method_103_code))) else (bif Nat.ble 329 i then (bif Nat.ble 332 i then (bif Nat.ble 333 i then (bif Nat.ble 334 i then prog_14_method_106_code else prog_14_method_101_code) else prog_14_method_100_code) else (bif Nat.ble 330 i then (bif Nat.ble 331 i then prog_14_method_102_code else prog_14_method_99_code) else prog_14_method_98_code)) else (bif Nat.ble 326 i then (bif Nat.ble 327 i then (bif Nat.ble 328 i then prog_14_method_97_code else prog_14_method_96_code) else prog_14_method_95_code) else (bif Nat.ble 325 i then prog_14_method_76_code else prog_14_method_94_code))))) else (bif Nat.ble 301 i then (bif Nat.ble 312 i then (bif Nat.ble 318 i then (bif Nat.ble 321 i then (bif Nat.ble 322 i then (bif Nat.ble 323 i then prog_14_method_90_code else prog_14_method_91_code) else prog_14_method_92_code) else (bif Nat.ble 319 i then (bif Nat.ble 320 i then prog_14_method_93_code else prog_14_method_88_code) else prog_14_method_89_code)) else (bif Nat.ble 315 i then (bif Nat.ble 316 i then (bif Nat.ble 317 i then prog_14_method_87_code else prog_14_method_8_code) else prog_14_method_86_code) else (bif Nat.ble 313 i then (bif Nat.ble 314 i then prog_14_method_85_code else prog_14_method_84_code) else prog_14_method_77_code))) else (bif Nat.ble 306 i then (bif Nat.ble 309 i then (bif Nat.ble 310 i then (bif Nat.ble 311 i then prog_14_method_78_code else prog_14_method_82_code) else prog_14_method_22_code) else (bif Nat.ble 307 i then (bif Nat.ble 308 i then prog_14_method_83_code else prog_14_method_72_code) else prog_14_method_73_code)) else (bif Nat.ble 303 i then (bif Nat.ble 304 i then (bif Nat.ble 305 i then prog_14_method_74_code else prog_14_method_75_code) else prog_14_method_18_code) else (bif Nat.ble 302 i then prog_14_method_79_code else prog_14_method_16_code)))) else (bif Nat.ble 289 i then (bif Nat.ble 295 i then (bif Nat.ble 298 i then (bif Nat.ble 299 i then (bif Nat.ble 300 i then prog_14_method_80_code else prog_14_method_15_code) else prog_14_method_21_code) else (bif Nat.ble 296 i then (bif Nat.ble 297 i then prog_14_method_81_code else prog_14_method_62_code) else prog_14_method_63_code)) else (bif Nat.ble 292 i then (bif Nat.ble 293 i then (bif Nat.ble 294 i then prog_14_method_64_code else prog_14_method_66_code) else prog_14_method_68_code) else (bif Nat.ble 290 i then (bif Nat.ble 291 i then prog_14_method_71_code else prog_14_method_67_code) else prog_14_method_20_code))) else (bif Nat.ble 283 i then (bif Nat.ble 286 i then (bif Nat.ble 287 i then (bif Nat.ble 288 i then prog_14_method_19_code else prog_14_method_70_code) else prog_14_method_3_code) else (bif Nat.ble 284 i then (bif Nat.ble 285 i then prog_14_method_23_code else prog_14_method_69_code) else prog_14_method_61_code)) else (bif Nat.ble 280 i then (bif Nat.ble 281 i then (bif Nat.ble 282 i then prog_14_method_2_code else prog_14_method_52_code) else prog_14_method_53_code) else (bif Nat.ble 279 i then prog_14_method_51_code else prog_14_method_31_code)))))) else (bif Nat.ble 231 i then (bif Nat.ble 254 i then (bif Nat.ble 266 i then (bif Nat.ble 272 i then (bif Nat.ble 275 i then (bif Nat.ble 276 i then (bif Nat.ble 277 i then prog_14_method_54_code else prog_14_method_55_code) else prog_14_method_56_code) else (bif Nat.ble 273 i then (bif Nat.ble 274 i then prog_14_method_57_code else prog_14_method_49_code) else prog_14_method_17_code)) else (bif Nat.ble 269 i then (bif Nat.ble 270 i then (bif Nat.ble 271 i then prog_14_method_47_code else prog_14_method_48_code) else prog_14_method_30_code) else (bif Nat.ble 267 i then (bif Nat.ble 268 i then prog_14_method_37_code else prog_14_method_46_code) else prog_14_method_14_code))) else (bif Nat.ble 260 i then (bif Nat.ble 263 i then (bif Nat.ble 264 i then (bif Nat.ble 265 i then prog_14_method_45_code else prog_14_method_34_code) else prog_14_method_38_code) else (bif Nat.ble 261 i then (bif Nat.ble 262 i then prog_14_method_44_code else prog_14_method_10_code) else prog_14_method_42_code)) else (bif Nat.ble 257 i then (bif Nat.ble 258 i then (bif Nat.ble 259 i then prog_14_method_11_code else prog_14_method_43_code) else prog_14_method_41_code) else (bif Nat.ble 255 i then (bif Nat.ble 256 i then prog_14_method_32_code else prog_14_method_33_code) else prog_14_method_13_code)))) else (bif Nat.ble 242 i then (bif Nat.ble 248 i then (bif Nat.ble 251 i then (bif Nat.ble 252 i then (bif Nat.ble 253 i then prog_14_method_12_code else prog_14_method_39_code) else prog_14_method_40_code) else (bif Nat.ble 249 i then (bif Nat.ble 250 i then prog_14_method_29_code else prog_14_method_50_code) else prog_14_method_28_code)) else (bif Nat.ble 245 i then (bif Nat.ble 246 i then (bif Nat.ble 247 i then prog_14_method_58_code else prog_14_method_26_code) else prog_14_method_27_code) else (bif Nat.ble 243 i then (bif Nat.ble 244 i then prog_14_method_36_code else prog_14_method_59_code) else prog_14_method_60_code))) else (bif Nat.ble 236 i then (bif Nat.ble 239 i then (bif Nat.ble 240 i then (bif Nat.ble 241 i then prog_14_method_35_code else prog_14_method_25_code) else prog_14_method_24_code) else (bif Nat.ble 237 i then (bif Nat.ble 238 i then prog_14_method_9_code else prog_14_method_7_code) else prog_14_method_6_code)) else (bif Nat.ble 233 i then (bif Nat.ble 234 i then (bif Nat.ble 235 i then prog_14_method_65_code else prog_14_method_5_code) else prog_1_method_57_code) else (bif Nat.ble 232 i then method_38_code else prog_1_method_56_code))))) else (bif Nat.ble 208 i then (bif Nat.ble 219 i then (bif Nat.ble 225 i then (bif Nat.ble 228 i then (bif Nat.ble 229 i then (bif Nat.ble 230 i then method_37_code else prog_1_method_55_code) else method_36_code) else (bif Nat.ble 226 i then (bif Nat.ble 227 i then prog_1_method_54_code else method_35_code) else prog_1_method_53_code)) else (bif Nat.ble 222 i then (bif Nat.ble 223 i then (bif Nat.ble 224 i then method_34_code else prog_1_method_50_code) else method_33_code) else (bif Nat.ble 220 i then (bif Nat.ble 221 i then prog_1_method_49_code else method_32_code) else prog_1_method_48_code))) else (bif Nat.ble 213 i then (bif Nat.ble 216 i then (bif Nat.ble 217 i then (bif Nat.ble 218 i then prog_1_method_47_code else method_31_code) else prog_1_method_46_code) else (bif Nat.ble 214 i then (bif Nat.ble 215 i then prog_1_method_67_code else prog_1_method_86_code) else prog_1_method_45_code)) else (bif Nat.ble 210 i then (bif Nat.ble 211 i then (bif Nat.ble 212 i then method_30_code else prog_1_method_44_code) else method_29_code) else (bif Nat.ble 209 i then prog_2_method_7_code else prog_2_method_6_code)))) else (bif Nat.ble 196 i then (bif Nat.ble 202 i then (bif Nat.ble 205 i then (bif Nat.ble 206 i then (bif Nat.ble 207 i then prog_1_method_43_code else method_28_code) else prog_2_method_5_code) else (bif Nat.ble 203 i then (bif Nat.ble 204 i then prog_2_method_4_code else prog_2_method_3_code) else prog_2_method_2_code)) else (bif Nat.ble 199 i then (bif Nat.ble 200 i then (bif Nat.ble 201 i then prog_1_method_42_code else method_27_code) else prog_1_method_41_code) else (bif Nat.ble 197 i then (bif Nat.ble 198 i then prog_1_method_40_code else prog_1_method_39_code) else method_26_code))) else (bif Nat.ble 190 i then (bif Nat.ble 193 i then (bif Nat.ble 194 i then (bif Nat.ble 195 i then prog_1_method_35_code else method_25_code) else prog_1_method_82_code) else (bif Nat.ble 191 i then (bif Nat.ble 192 i then prog_1_method_34_code else method_24_code) else prog_1_method_32_code)) else (bif Nat.ble 187 i then (bif Nat.ble 188 i then (bif Nat.ble 189 i then method_23_code else prog_1_method_33_code) else prog_1_method_84_code) else (bif Nat.ble 186 i then prog_1_method_31_code else method_22_code))))))) else (bif Nat.ble 92 i then (bif Nat.ble 138 i then (bif Nat.ble 161 i then (bif Nat.ble 173 i then (bif Nat.ble 179 i then (bif Nat.ble 182 i then (bif Nat.ble 183 i then (bif Nat.ble 184 i then prog_1_method_75_code else prog_1_method_76_code) else prog_1_method_74_code) else (bif Nat.ble 180 i then (bif Nat.ble 181 i then prog_1_method_30_code else prog_1_method_73_code) else prog_1_method_29_code)) else (bif Nat.ble 176 i then (bif Nat.ble 177 i then (bif Nat.ble 178 i then method_21_code else prog_1_method_26_code) else method_20_code) else (bif Nat.ble 174 i then (bif Nat.ble 175 i then prog_11_method_5_code else prog_1_method_25_code) else method_19_code))) else (bif Nat.ble 167 i then (bif Nat.ble 170 i then (bif Nat.ble 171 i then (bif Nat.ble 172 i then prog_1_method_24_code else method_18_code) else prog_11_method_4_code) else (bif Nat.ble 168 i then (bif Nat.ble 169 i then prog_1_method_23_code else method_17_code) else prog_1_method_22_code)) else (bif Nat.ble 164 i then (bif Nat.ble 165 i then (bif Nat.ble 166 i then method_16_code else prog_5_method_3_code) else prog_4_method_13_code) else (bif Nat.ble 162 i then (bif Nat.ble 163 i then prog_1_method_21_code else prog_1_method_20_code) else prog_1_method_19_code)))) else (bif Nat.ble 149 i then (bif Nat.ble 155 i then (bif Nat.ble 158 i then (bif Nat.ble 159 i then (bif Nat.ble 160 i then method_15_code else prog_8_method_6_code) else prog_1_method_18_code) else (bif Nat.ble 156 i then (bif Nat.ble 157 i then method_14_code else prog_1_method_17_code) else method_13_code)) else (bif Nat.ble 152 i then (bif Nat.ble 153 i then (bif Nat.ble 154 i then prog_3_method_4_code else prog_1_method_85_code) else prog_1_method_16_code) else (bif Nat.ble 150 i then (bif Nat.ble 151 i then method_12_code else prog_1_method_15_code) else method_11_code))) else (bif Nat.ble 143 i then (bif Nat.ble 146 i then (bif Nat.ble 147 i then (bif Nat.ble 148 i then prog_11_method_10_code else prog_1_method_14_code) else method_10_code) else (bif Nat.ble 144 i then (bif Nat.ble 145 i then prog_1_method_64_code else prog_1_method_63_code) else prog_1_method_81_code)) else (bif Nat.ble 140 i then (bif Nat.ble 141 i then (bif Nat.ble 142 i then prog_1_method_13_code else method_9_code) else prog_1_method_72_code) else (bif Nat.ble 139 i then prog_1_method_80_code else prog_1_method_12_code))))) else (bif Nat.ble 115 i then (bif Nat.ble 126 i then (bif Nat.ble 132 i then (bif Nat.ble 135 i then (bif Nat.ble 136 i then (bif Nat.ble 137 i then method_8_code else prog_1_method_11_code) else method_7_code) else (bif Nat.ble 133 i then (bif Nat.ble 134 i then prog_1_method_79_code else prog_1_method_77_code) else prog_1_method_78_code)) else (bif Nat.ble 129 i then (bif Nat.ble 130 i then (bif Nat.ble 131 i then prog_1_method_10_code else method_6_code) else prog_1_method_83_code) else (bif Nat.ble 127 i then (bif Nat.ble 128 i then prog_1_method_9_code else method_5_code) else prog_5_method_1_code))) else (bif Nat.ble 120 i then (bif Nat.ble 123 i then (bif Nat.ble 124 i then (bif Nat.ble 125 i then prog_34_method_123_code else prog_6_method_3_code) else prog_1_method_6_code) else (bif Nat.ble 121 i then (bif Nat.ble 122 i then method_4_code else prog_12_method_3_code) else prog_10_method_14_code)) else (bif Nat.ble 117 i then (bif Nat.ble 118 i then (bif Nat.ble 119 i then prog_8_method_5_code else prog_10_method_13_code) else prog_10_method_15_code) else (bif Nat.ble 116 i then prog_10_method_12_code else prog_10_method_11_code)))) else (bif Nat.ble 103 i then (bif Nat.ble 109 i then (bif Nat.ble 112 i then (bif Nat.ble 113 i then (bif Nat.ble 114 i then prog_10_method_10_code else prog_10_method_9_code) else prog_12_method_9_code) else (bif Nat.ble 110 i then (bif Nat.ble 111 i then prog_10_method_16_code else prog_10_method_8_code) else prog_10_method_7_code)) else (bif Nat.ble 106 i then (bif Nat.ble 107 i then (bif Nat.ble 108 i then prog_7_method_3_code else prog_10_method_6_code) else prog_10_method_5_code) else (bif Nat.ble 104 i then (bif Nat.ble 105 i then prog_8_method_3_code else prog_10_method_4_code) else prog_10_method_3_code))) else (bif Nat.ble 97 i then (bif Nat.ble 100 i then (bif Nat.ble 101 i then (bif Nat.ble 102 i then prog_7_method_4_code else prog_6_method_10_code) else prog_6_method_9_code) else (bif Nat.ble 98 i then (bif Nat.ble 99 i then prog_6_method_6_code else prog_12_method_10_code) else prog_6_method_8_code)) else (bif Nat.ble 94 i then (bif Nat.ble 95 i then (bif Nat.ble 96 i then prog_6_method_7_code else prog_12_method_8_code) else prog_12_method_11_code) else (bif Nat.ble 93 i then prog_12_method_12_code else prog_28_method_5_code)))))) else (bif Nat.ble 46 i then (bif Nat.ble 69 i then (bif Nat.ble 80 i then (bif Nat.ble 86 i then (bif Nat.ble 89 i then (bif Nat.ble 90 i then (bif Nat.ble 91 i then prog_28_method_6_code else prog_28_method_91_code) else prog_28_method_83_code) else (bif Nat.ble 87 i then (bif Nat.ble 88 i then prog_36_method_11_code else prog_26_method_155_code) else prog_27_method_2_code)) else (bif Nat.ble 83 i then (bif Nat.ble 84 i then (bif Nat.ble 85 i then prog_26_method_154_code else prog_26_method_56_code) else prog_26_method_152_code) else (bif Nat.ble 81 i then (bif Nat.ble 82 i then prog_26_method_54_code else prog_12_method_7_code) else prog_6_method_5_code))) else (bif Nat.ble 74 i then (bif Nat.ble 77 i then (bif Nat.ble 78 i then (bif Nat.ble 79 i then prog_6_method_4_code else prog_12_method_6_code) else prog_12_method_5_code) else (bif Nat.ble 75 i then (bif Nat.ble 76 i then prog_12_method_4_code else prog_12_method_2_code) else prog_10_method_2_code)) else (bif Nat.ble 71 i then (bif Nat.ble 72 i then (bif Nat.ble 73 i then prog_6_method_2_code else prog_9_method_4_code) else prog_1_method_5_code) else (bif Nat.ble 70 i then method_3_code else prog_3_method_2_code)))) else (bif Nat.ble 57 i then (bif Nat.ble 63 i then (bif Nat.ble 66 i then (bif Nat.ble 67 i then (bif Nat.ble 68 i then prog_1_method_71_code else prog_1_method_68_code) else prog_1_method_69_code) else (bif Nat.ble 64 i then (bif Nat.ble 65 i then prog_1_method_70_code else prog_1_method_62_code) else prog_1_method_61_code)) else (bif Nat.ble 60 i then (bif Nat.ble 61 i then (bif Nat.ble 62 i then prog_3_method_6_code else prog_1_method_7_code) else prog_1_method_60_code) else (bif Nat.ble 58 i then (bif Nat.ble 59 i then prog_1_method_59_code else prog_7_method_8_code) else prog_8_method_2_code))) else (bif Nat.ble 51 i then (bif Nat.ble 54 i then (bif Nat.ble 55 i then (bif Nat.ble 56 i then prog_3_method_3_code else prog_3_method_5_code) else prog_1_method_58_code) else (bif Nat.ble 52 i then (bif Nat.ble 53 i then prog_1_method_52_code else prog_1_method_51_code) else prog_1_method_36_code)) else (bif Nat.ble 48 i then (bif Nat.ble 49 i then (bif Nat.ble 50 i then prog_1_method_38_code else prog_23_method_49_code) else prog_1_method_37_code) else (bif Nat.ble 47 i then prog_1_method_66_code else prog_1_method_28_code))))) else (bif Nat.ble 23 i then (bif Nat.ble 34 i then (bif Nat.ble 40 i then (bif Nat.ble 43 i then (bif Nat.ble 44 i then (bif Nat.ble 45 i then prog_7_method_7_code else prog_4_method_7_code) else prog_11_method_9_code) else (bif Nat.ble 41 i then (bif Nat.ble 42 i then prog_4_method_11_code else prog_5_method_4_code) else prog_5_method_2_code)) else (bif Nat.ble 37 i then (bif Nat.ble 38 i then (bif Nat.ble 39 i then prog_4_method_12_code else prog_34_method_101_code) else prog_4_method_10_code) else (bif Nat.ble 35 i then (bif Nat.ble 36 i then prog_4_method_8_code else prog_4_method_9_code) else prog_4_method_6_code))) else (bif Nat.ble 28 i then (bif Nat.ble 31 i then (bif Nat.ble 32 i then (bif Nat.ble 33 i then prog_11_method_8_code else prog_11_method_7_code) else prog_11_method_6_code) else (bif Nat.ble 29 i then (bif Nat.ble 30 i then prog_11_method_11_code else prog_11_method_2_code) else prog_8_method_4_code)) else (bif Nat.ble 25 i then (bif Nat.ble 26 i then (bif Nat.ble 27 i then prog_11_method_3_code else prog_24_method_69_code) else prog_7_method_5_code) else (bif Nat.ble 24 i then prog_1_method_65_code else prog_1_method_27_code)))) else (bif Nat.ble 11 i then (bif Nat.ble 17 i then (bif Nat.ble 20 i then (bif Nat.ble 21 i then (bif Nat.ble 22 i then prog_1_method_8_code else prog_1_method_4_code) else prog_1_method_3_code) else (bif Nat.ble 18 i then (bif Nat.ble 19 i then prog_1_method_2_code else prog_6_method_1_code) else prog_12_method_1_code)) else (bif Nat.ble 14 i then (bif Nat.ble 15 i then (bif Nat.ble 16 i then prog_9_method_1_code else prog_10_method_1_code) else prog_2_method_1_code) else (bif Nat.ble 12 i then (bif Nat.ble 13 i then prog_11_method_1_code else prog_4_method_5_code) else prog_24_method_65_code))) else (bif Nat.ble 5 i then (bif Nat.ble 8 i then (bif Nat.ble 9 i then (bif Nat.ble 10 i then prog_7_method_6_code else prog_7_method_2_code) else prog_34_method_103_code) else (bif Nat.ble 6 i then (bif Nat.ble 7 i then prog_4_method_4_code else prog_4_method_3_code) else prog_4_method_2_code)) else (bif Nat.ble 2 i then (bif Nat.ble 3 i then (bif Nat.ble 4 i then prog_4_method_1_code else prog_3_method_1_code) else prog_7_method_1_code) else (bif Nat.ble 1 i then prog_8_method_1_code else prog_1_method_1_code))))))))
noncomputable def gm_ml (i : Nat) : Nat := bif Nat.ble 371 i then 0 else (bif Nat.ble 185 i then (bif Nat.ble 278 i then (bif Nat.ble 324 i then (bif Nat.ble 347 i then (bif Nat.ble 359 i then (bif Nat.ble 365 i then (bif Nat.ble 368 i then (bif Nat.ble 369 i then (bif Nat.ble 370 i then 7 else 1) else 5) else (bif Nat.ble 366 i then (bif Nat.ble 367 i then 3 else 4) else 7)) else (bif Nat.ble 362 i then (bif Nat.ble 363 i then (bif Nat.ble 364 i then 4 else 5) else 5) else (bif Nat.ble 360 i then (bif Nat.ble 361 i then 2 else 4) else 8))) else (bif Nat.ble 353 i then (bif Nat.ble 356 i then (bif Nat.ble 357 i then (bif Nat.ble 358 i then 5 else 5) else 6) else (bif Nat.ble 354 i then (bif Nat.ble 355 i then 6 else 7) else 3)) else (bif Nat.ble 350 i then (bif Nat.ble 351 i then (bif Nat.ble 352 i then 3 else 2) else 7) else (bif Nat.ble 348 i then (bif Nat.ble 349 i then 5 else 5) else 6)))) else (bif Nat.ble 335 i then (bif Nat.ble 341 i then (bif Nat.ble 344 i then (bif Nat.ble 345 i then (bif Nat.ble 346 i then 2 else 6) else 4) else (bif Nat.ble 342 i then (bif Nat.ble 343 i then 3 else 2) else 3)) else (bif Nat.ble 338 i then (bif Nat.ble 339 i then (bif Nat.ble 340 i then 5 else 6) else 6) else (bif Nat.ble 336 i then (bif Nat.ble 337 i then 2 else 3) else 2))) else (bif Nat.ble 329 i then (bif Nat.ble 332 i then (bif Nat.ble 333 i then (bif Nat.ble 334 i then 4 else 6) else 2) else (bif Nat.ble 330 i then (bif Nat.ble 331 i then 6 else 3) else 2)) else (bif Nat.ble 326 i then (bif Nat.ble 327 i then (bif Nat.ble 328 i then 3 else 5) else 5) else (bif Nat.ble 325 i then 4 else 9))))) else (bif Nat.ble 301 i then (bif Nat.ble 312 i then (bif Nat.ble 318 i then (bif Nat.ble 321 i then (bif Nat.ble 322 i then (bif Nat.ble 323 i then 3 else 4) else 4) else (bif Nat.ble 319 i then (bif Nat.ble 320 i then 4 else 4) else 2)) else (bif Nat.ble 315 i then (bif Nat.ble 316 i then (bif Nat.ble 317 i then 4 else 2) else 3) else (bif Nat.ble 313 i then (bif Nat.ble 314 i then 3 else 3) else 2))) else (bif Nat.ble 306 i then (bif Nat.ble 309 i then (bif Nat.ble 310 i then (bif Nat.ble 311 i then 3 else 3) else 2) else (bif Nat.ble 307 i then (bif Nat.ble 308 i then 4 else 7) else 9)) else (bif Nat.ble 303 i then (bif Nat.ble 304 i then (bif Nat.ble 305 i then 3 else 2) else 2) else (bif Nat.ble 302 i then 3 else 3)))) else (bif Nat.ble 289 i then (bif Nat.ble 295 i then (bif Nat.ble 298 i then (bif Nat.ble 299 i then (bif Nat.ble 300 i then 6 else 3) else 2) else (bif Nat.ble 296 i then (bif Nat.ble 297 i then 3 else 3) else 9)) else (bif Nat.ble 292 i then (bif Nat.ble 293 i then (bif Nat.ble 294 i then 4 else 3) else 6) else (bif Nat.ble 290 i then (bif Nat.ble 291 i then 4 else 5) else 2))) else (bif Nat.ble 283 i then (bif Nat.ble 286 i then (bif Nat.ble 287 i then (bif Nat.ble 288 i then 2 else 3) else 3) else (bif Nat.ble 284 i then (bif Nat.ble 285 i then 1 else 2) else 3)) else (bif Nat.ble 280 i then (bif Nat.ble 281 i then (bif Nat.ble 282 i then 3 else 2) else 1) else (bif Nat.ble 279 i then 3 else 2)))))) else (bif Nat.ble 231 i then (bif Nat.ble 254 i then (bif Nat.ble 266 i then (bif Nat.ble 272 i then (bif Nat.ble 275 i then (bif Nat.ble 276 i then (bif Nat.ble 277 i then 3 else 1) else 1) else (bif Nat.ble 273 i then (bif Nat.ble 274 i then 3 else 2) else 4)) else (bif Nat.ble 269 i then (bif Nat.ble 270 i then (bif Nat.ble 271 i then 6 else 3) else 2) else (bif Nat.ble 267 i then (bif Nat.ble 268 i then 1 else 5) else 1))) else (bif Nat.ble 260 i then (bif Nat.ble 263 i then (bif Nat.ble 264 i then (bif Nat.ble 265 i then 5 else 4) else 1) else (bif Nat.ble 261 i then (bif Nat.ble 262 i then 3 else 1) else 4)) else (bif Nat.ble 257 i then (bif Nat.ble 258 i then (bif Nat.ble 259 i then 1 else 4) else 2) else (bif Nat.ble 255 i then (bif Nat.ble 256 i then 5 else 3) else 1)))) else (bif Nat.ble 242 i then (bif Nat.ble 248 i then (bif Nat.ble 251 i then (bif Nat.ble 252 i then (bif Nat.ble 253 i then 1 else 1) else 2) else (bif Nat.ble 249 i then (bif Nat.ble 250 i then 4 else 3) else 1)) else (bif Nat.ble 245 i then (bif Nat.ble 246 i then (bif Nat.ble 247 i then 3 else 3) else 1) else (bif Nat.ble 243 i then (bif Nat.ble 244 i then 1 else 3) else 3))) else (bif Nat.ble 236 i then (bif Nat.ble 239 i then (bif Nat.ble 240 i then (bif Nat.ble 241 i then 1 else 2) else 7) else (bif Nat.ble 237 i then (bif Nat.ble 238 i then 2 else 2) else 2)) else (bif Nat.ble 233 i then (bif Nat.ble 234 i then (bif Nat.ble 235 i then 3 else 1) else 3) else (bif Nat.ble 232 i then 5 else 4))))) else (bif Nat.ble 208 i then (bif Nat.ble 219 i then (bif Nat.ble 225 i then (bif Nat.ble 228 i then (bif Nat.ble 229 i then (bif Nat.ble 230 i then 4 else 7) else 5) else (bif Nat.ble 226 i then (bif Nat.ble 227 i then 4 else 5) else 6)) else (bif Nat.ble 222 i then (bif Nat.ble 223 i then (bif Nat.ble 224 i then 5 else 2) else 4) else (bif Nat.ble 220 i then (bif Nat.ble 221 i then 5 else 5) else 7))) else (bif Nat.ble 213 i then (bif Nat.ble 216 i then (bif Nat.ble 217 i then (bif Nat.ble 218 i then 5 else 5) else 4) else (bif Nat.ble 214 i then (bif Nat.ble 215 i then 5 else 2) else 5)) else (bif Nat.ble 210 i then (bif Nat.ble 211 i then (bif Nat.ble 212 i then 5 else 5) else 5) else (bif Nat.ble 209 i then 7 else 9)))) else (bif Nat.ble 196 i then (bif Nat.ble 202 i then (bif Nat.ble 205 i then (bif Nat.ble 206 i then (bif Nat.ble 207 i then 4 else 6) else 3) else (bif Nat.ble 203 i then (bif Nat.ble 204 i then 3 else 10) else 7)) else (bif Nat.ble 199 i then (bif Nat.ble 200 i then (bif Nat.ble 201 i then 5 else 6) else 4) else (bif Nat.ble 197 i then (bif Nat.ble 198 i then 5 else 4) else 3))) else (bif Nat.ble 190 i then (bif Nat.ble 193 i then (bif Nat.ble 194 i then (bif Nat.ble 195 i then 4 else 6) else 2) else (bif Nat.ble 191 i then (bif Nat.ble 192 i then 3 else 5) else 5)) else (bif Nat.ble 187 i then (bif Nat.ble 188 i then (bif Nat.ble 189 i then 7 else 6) else 3) else (bif Nat.ble 186 i then 6 else 6))))))) else (bif Nat.ble 92 i then (bif Nat.ble 138 i then (bif Nat.ble 161 i then (bif Nat.ble 173 i then (bif Nat.ble 179 i then (bif Nat.ble 182 i then (bif Nat.ble 183 i then (bif Nat.ble 184 i then 1 else 1) else 5) else (bif Nat.ble 180 i then (bif Nat.ble 181 i then 5 else 3) else 4)) else (bif Nat.ble 176 i then (bif Nat.ble 177 i then (bif Nat.ble 178 i then 4 else 2) else 4) else (bif Nat.ble 174 i then (bif Nat.ble 175 i then 2 else 3) else 5))) else (bif Nat.ble 167 i then (bif Nat.ble 170 i then (bif Nat.ble 171 i then (bif Nat.ble 172 i then 5 else 5) else 3) else (bif Nat.ble 168 i then (bif Nat.ble 169 i then 4 else 5) else 9)) else (bif Nat.ble 164 i then (bif Nat.ble 165 i then (bif Nat.ble 166 i then 7 else 4) else 5) else (bif Nat.ble 162 i then (bif Nat.ble 163 i then 6 else 4) else 4)))) else (bif Nat.ble 149 i then (bif Nat.ble 155 i then (bif Nat.ble 158 i then (bif Nat.ble 159 i then (bif Nat.ble 160 i then 4 else 4) else 2) else (bif Nat.ble 156 i then (bif Nat.ble 157 i then 4 else 4) else 5)) else (bif Nat.ble 152 i then (bif Nat.ble 153 i then (bif Nat.ble 154 i then 3 else 3) else 3) else (bif Nat.ble 150 i then (bif Nat.ble 151 i then 5 else 3) else 5))) else (bif Nat.ble 143 i then (bif Nat.ble 146 i then (bif Nat.ble 147 i then (bif Nat.ble 148 i then 3 else 3) else 5) else (bif Nat.ble 144 i then (bif Nat.ble 145 i then 3 else 2) else 2)) else (bif Nat.ble 140 i then (bif Nat.ble 141 i then (bif Nat.ble 142 i then 3 else 5) else 5) else (bif Nat.ble 139 i then 2 else 3))))) else (bif Nat.ble 115 i then (bif Nat.ble 126 i then (bif Nat.ble 132 i then (bif Nat.ble 135 i then (bif Nat.ble 136 i then (bif Nat.ble 137 i then 5 else 4) else 6) else (bif Nat.ble 133 i then (bif Nat.ble 134 i then 2 else 3) else 2)) else (bif Nat.ble 129 i then (bif Nat.ble 130 i then (bif Nat.ble 131 i then 3 else 5) else 2) else (bif Nat.ble 127 i then (bif Nat.ble 128 i then 2 else 4) else 3))) else (bif Nat.ble 120 i then (bif Nat.ble 123 i then (bif Nat.ble 124 i then (bif Nat.ble 125 i then 3 else 1) else 1) else (bif Nat.ble 121 i then (bif Nat.ble 122 i then 3 else 1) else 1)) else (bif Nat.ble 117 i then (bif Nat.ble 118 i then (bif Nat.ble 119 i then 6 else 3) else 1) else (bif Nat.ble 116 i then 5 else 5)))) else (bif Nat.ble 103 i then (bif Nat.ble 109 i then (bif Nat.ble 112 i then (bif Nat.ble 113 i then (bif Nat.ble 114 i then 2 else 2) else 2) else (bif Nat.ble 110 i then (bif Nat.ble 111 i then 1 else 3) else 6)) else (bif Nat.ble 106 i then (bif Nat.ble 107 i then (bif Nat.ble 108 i then 1 else 5) else 2) else (bif Nat.ble 104 i then (bif Nat.ble 105 i then 1 else 2) else 1))) else (bif Nat.ble 97 i then (bif Nat.ble 100 i then (bif Nat.ble 101 i then (bif Nat.ble 102 i then 1 else 1) else 3) else (bif Nat.ble 98 i then (bif Nat.ble 99 i then 2 else 2) else 4)) else (bif Nat.ble 94 i then (bif Nat.ble 95 i then (bif Nat.ble 96 i then 4 else 3) else 4) else (bif Nat.ble 93 i then 1 else 2)))))) else (bif Nat.ble 46 i then (bif Nat.ble 69 i then (bif Nat.ble 80 i then (bif Nat.ble 86 i then (bif Nat.ble 89 i then (bif Nat.ble 90 i then (bif Nat.ble 91 i then 1 else 2) else 2) else (bif Nat.ble 87 i then (bif Nat.ble 88 i then 3 else 2) else 2)) else (bif Nat.ble 83 i then (bif Nat.ble 84 i then (bif Nat.ble 85 i then 1 else 2) else 1) else (bif Nat.ble 81 i then (bif Nat.ble 82 i then 1 else 3) else 1))) else (bif Nat.ble 74 i then (bif Nat.ble 77 i then (bif Nat.ble 78 i then (bif Nat.ble 79 i then 5 else 1) else 1) else (bif Nat.ble 75 i then (bif Nat.ble 76 i then 2 else 2) else 1)) else (bif Nat.ble 71 i then (bif Nat.ble 72 i then (bif Nat.ble 73 i then 1 else 3) else 1) else (bif Nat.ble 70 i then 3 else 1)))) else (bif Nat.ble 57 i then (bif Nat.ble 63 i then (bif Nat.ble 66 i then (bif Nat.ble 67 i then (bif Nat.ble 68 i then 3 else 3) else 3) else (bif Nat.ble 64 i then (bif Nat.ble 65 i then 5 else 1) else 2)) else (bif Nat.ble 60 i then (bif Nat.ble 61 i then (bif Nat.ble 62 i then 1 else 1) else 1) else (bif Nat.ble 58 i then (bif Nat.ble 59 i then 1 else 2) else 2))) else (bif Nat.ble 51 i then (bif Nat.ble 54 i then (bif Nat.ble 55 i then (bif Nat.ble 56 i then 2 else 3) else 1) else (bif Nat.ble 52 i then (bif Nat.ble 53 i then 7 else 3) else 5)) else (bif Nat.ble 48 i then (bif Nat.ble 49 i then (bif Nat.ble 50 i then 4 else 1) else 4) else (bif Nat.ble 47 i then 5 else 7))))) else (bif Nat.ble 23 i then (bif Nat.ble 34 i then (bif Nat.ble 40 i then (bif Nat.ble 43 i then (bif Nat.ble 44 i then (bif Nat.ble 45 i then 4 else 2) else 5) else (bif Nat.ble 41 i then (bif Nat.ble 42 i then 6 else 14) else 5)) else (bif Nat.ble 37 i then (bif Nat.ble 38 i then (bif Nat.ble 39 i then 5 else 5) else 3) else (bif Nat.ble 35 i then (bif Nat.ble 36 i then 4 else 7) else 2))) else (bif Nat.ble 28 i then (bif Nat.ble 31 i then (bif Nat.ble 32 i then (bif Nat.ble 33 i then 1 else 2) else 1) else (bif Nat.ble 29 i then (bif Nat.ble 30 i then 3 else 5) else 2)) else (bif Nat.ble 25 i then (bif Nat.ble 26 i then (bif Nat.ble 27 i then 3 else 2) else 2) else (bif Nat.ble 24 i then 2 else 3)))) else (bif Nat.ble 11 i then (bif Nat.ble 17 i then (bif Nat.ble 20 i then (bif Nat.ble 21 i then (bif Nat.ble 22 i then 1 else 2) else 3) else (bif Nat.ble 18 i then (bif Nat.ble 19 i then 6 else 2) else 3)) else (bif Nat.ble 14 i then (bif Nat.ble 15 i then (bif Nat.ble 16 i then 4 else 3) else 3) else (bif Nat.ble 12 i then (bif Nat.ble 13 i then 3 else 3) else 2))) else (bif Nat.ble 5 i then (bif Nat.ble 8 i then (bif Nat.ble 9 i then (bif Nat.ble 10 i then 3 else 1) else 4) else (bif Nat.ble 6 i then (bif Nat.ble 7 i then 6 else 3) else 1)) else (bif Nat.ble 2 i then (bif Nat.ble 3 i then (bif Nat.ble 4 i then 2 else 2) else 3) else (bif Nat.ble 1 i then 1 else 1))))))))
noncomputable def gm_ow (i : Nat) : Nat := bif Nat.ble 371 i then 0 else (bif Nat.ble 185 i then (bif Nat.ble 278 i then (bif Nat.ble 324 i then (bif Nat.ble 347 i then (bif Nat.ble 359 i then (bif Nat.ble 365 i then (bif Nat.ble 368 i then (bif Nat.ble 369 i then (bif Nat.ble 370 i then 15 else 20) else 20) else (bif Nat.ble 366 i then (bif Nat.ble 367 i then 20 else 20) else 20)) else (bif Nat.ble 362 i then (bif Nat.ble 363 i then (bif Nat.ble 364 i then 20 else 20) else 20) else (bif Nat.ble 360 i then (bif Nat.ble 361 i then 20 else 20) else 20))) else (bif Nat.ble 353 i then (bif Nat.ble 356 i then (bif Nat.ble 357 i then (bif Nat.ble 358 i then 20 else 20) else 20) else (bif Nat.ble 354 i then (bif Nat.ble 355 i then 20 else 20) else 20)) else (bif Nat.ble 350 i then (bif Nat.ble 351 i then (bif Nat.ble 352 i then 20 else 20) else 20) else (bif Nat.ble 348 i then (bif Nat.ble 349 i then 20 else 20) else 20)))) else (bif Nat.ble 335 i then (bif Nat.ble 341 i then (bif Nat.ble 344 i then (bif Nat.ble 345 i then (bif Nat.ble 346 i then 20 else 20) else 20) else (bif Nat.ble 342 i then (bif Nat.ble 343 i then 20 else 20) else 20)) else (bif Nat.ble 338 i then (bif Nat.ble 339 i then (bif Nat.ble 340 i then 20 else 20) else 20) else (bif Nat.ble 336 i then (bif Nat.ble 337 i then 20 else 20) else 20))) else (bif Nat.ble 329 i then (bif Nat.ble 332 i then (bif Nat.ble 333 i then (bif Nat.ble 334 i then 20 else 20) else 20) else (bif Nat.ble 330 i then (bif Nat.ble 331 i then 20 else 20) else 20)) else (bif Nat.ble 326 i then (bif Nat.ble 327 i then (bif Nat.ble 328 i then 20 else 20) else 20) else (bif Nat.ble 325 i then 20 else 20))))) else (bif Nat.ble 301 i then (bif Nat.ble 312 i then (bif Nat.ble 318 i then (bif Nat.ble 321 i then (bif Nat.ble 322 i then (bif Nat.ble 323 i then 20 else 20) else 20) else (bif Nat.ble 319 i then (bif Nat.ble 320 i then 20 else 20) else 20)) else (bif Nat.ble 315 i then (bif Nat.ble 316 i then (bif Nat.ble 317 i then 20 else 20) else 20) else (bif Nat.ble 313 i then (bif Nat.ble 314 i then 20 else 20) else 20))) else (bif Nat.ble 306 i then (bif Nat.ble 309 i then (bif Nat.ble 310 i then (bif Nat.ble 311 i then 20 else 20) else 20) else (bif Nat.ble 307 i then (bif Nat.ble 308 i then 20 else 20) else 20)) else (bif Nat.ble 303 i then (bif Nat.ble 304 i then (bif Nat.ble 305 i then 20 else 20) else 20) else (bif Nat.ble 302 i then 20 else 20)))) else (bif Nat.ble 289 i then (bif Nat.ble 295 i then (bif Nat.ble 298 i then (bif Nat.ble 299 i then (bif Nat.ble 300 i then 20 else 20) else 20) else (bif Nat.ble 296 i then (bif Nat.ble 297 i then 20 else 20) else 20)) else (bif Nat.ble 292 i then (bif Nat.ble 293 i then (bif Nat.ble 294 i then 20 else 20) else 20) else (bif Nat.ble 290 i then (bif Nat.ble 291 i then 20 else 20) else 20))) else (bif Nat.ble 283 i then (bif Nat.ble 286 i then (bif Nat.ble 287 i then (bif Nat.ble 288 i then 20 else 20) else 20) else (bif Nat.ble 284 i then (bif Nat.ble 285 i then 20 else 20) else 20)) else (bif Nat.ble 280 i then (bif Nat.ble 281 i then (bif Nat.ble 282 i then 20 else 20) else 20) else (bif Nat.ble 279 i then 20 else 20)))))) else (bif Nat.ble 231 i then (bif Nat.ble 254 i then (bif Nat.ble 266 i then (bif Nat.ble 272 i then (bif Nat.ble 275 i then (bif Nat.ble 276 i then (bif Nat.ble 277 i then 20 else 20) else 20) else (bif Nat.ble 273 i then (bif Nat.ble 274 i then 20 else 20) else 20)) else (bif Nat.ble 269 i then (bif Nat.ble 270 i then (bif Nat.ble 271 i then 20 else 20) else 20) else (bif Nat.ble 267 i then (bif Nat.ble 268 i then 20 else 20) else 20))) else (bif Nat.ble 260 i then (bif Nat.ble 263 i then (bif Nat.ble 264 i then (bif Nat.ble 265 i then 20 else 20) else 20) else (bif Nat.ble 261 i then (bif Nat.ble 262 i then 20 else 20) else 20)) else (bif Nat.ble 257 i then (bif Nat.ble 258 i then (bif Nat.ble 259 i then 20 else 20) else 20) else (bif Nat.ble 255 i then (bif Nat.ble 256 i then 20 else 20) else 20)))) else (bif Nat.ble 242 i then (bif Nat.ble 248 i then (bif Nat.ble 251 i then (bif Nat.ble 252 i then (bif Nat.ble 253 i then 20 else 20) else 20) else (bif Nat.ble 249 i then (bif Nat.ble 250 i then 20 else 20) else 20)) else (bif Nat.ble 245 i then (bif Nat.ble 246 i then (bif Nat.ble 247 i then 20 else 20) else 20) else (bif Nat.ble 243 i then (bif Nat.ble 244 i then 20 else 20) else 20))) else (bif Nat.ble 236 i then (bif Nat.ble 239 i then (bif Nat.ble 240 i then (bif Nat.ble 241 i then 20 else 20) else 20) else (bif Nat.ble 237 i then (bif Nat.ble 238 i then 20 else 20) else 20)) else (bif Nat.ble 233 i then (bif Nat.ble 234 i then (bif Nat.ble 235 i then 20 else 20) else 0) else (bif Nat.ble 232 i then 15 else 0))))) else (bif Nat.ble 208 i then (bif Nat.ble 219 i then (bif Nat.ble 225 i then (bif Nat.ble 228 i then (bif Nat.ble 229 i then (bif Nat.ble 230 i then 15 else 0) else 15) else (bif Nat.ble 226 i then (bif Nat.ble 227 i then 0 else 15) else 0)) else (bif Nat.ble 222 i then (bif Nat.ble 223 i then (bif Nat.ble 224 i then 15 else 0) else 15) else (bif Nat.ble 220 i then (bif Nat.ble 221 i then 0 else 15) else 0))) else (bif Nat.ble 213 i then (bif Nat.ble 216 i then (bif Nat.ble 217 i then (bif Nat.ble 218 i then 0 else 15) else 0) else (bif Nat.ble 214 i then (bif Nat.ble 215 i then 0 else 0) else 0)) else (bif Nat.ble 210 i then (bif Nat.ble 211 i then (bif Nat.ble 212 i then 15 else 0) else 15) else (bif Nat.ble 209 i then 8 else 8)))) else (bif Nat.ble 196 i then (bif Nat.ble 202 i then (bif Nat.ble 205 i then (bif Nat.ble 206 i then (bif Nat.ble 207 i then 0 else 15) else 8) else (bif Nat.ble 203 i then (bif Nat.ble 204 i then 8 else 8) else 8)) else (bif Nat.ble 199 i then (bif Nat.ble 200 i then (bif Nat.ble 201 i then 0 else 15) else 0) else (bif Nat.ble 197 i then (bif Nat.ble 198 i then 0 else 0) else 15))) else (bif Nat.ble 190 i then (bif Nat.ble 193 i then (bif Nat.ble 194 i then (bif Nat.ble 195 i then 0 else 15) else 0) else (bif Nat.ble 191 i then (bif Nat.ble 192 i then 0 else 15) else 0)) else (bif Nat.ble 187 i then (bif Nat.ble 188 i then (bif Nat.ble 189 i then 15 else 0) else 0) else (bif Nat.ble 186 i then 0 else 15))))))) else (bif Nat.ble 92 i then (bif Nat.ble 138 i then (bif Nat.ble 161 i then (bif Nat.ble 173 i then (bif Nat.ble 179 i then (bif Nat.ble 182 i then (bif Nat.ble 183 i then (bif Nat.ble 184 i then 0 else 0) else 0) else (bif Nat.ble 180 i then (bif Nat.ble 181 i then 0 else 0) else 0)) else (bif Nat.ble 176 i then (bif Nat.ble 177 i then (bif Nat.ble 178 i then 15 else 0) else 15) else (bif Nat.ble 174 i then (bif Nat.ble 175 i then 7 else 0) else 15))) else (bif Nat.ble 167 i then (bif Nat.ble 170 i then (bif Nat.ble 171 i then (bif Nat.ble 172 i then 0 else 15) else 7) else (bif Nat.ble 168 i then (bif Nat.ble 169 i then 0 else 15) else 0)) else (bif Nat.ble 164 i then (bif Nat.ble 165 i then (bif Nat.ble 166 i then 15 else 13) else 4) else (bif Nat.ble 162 i then (bif Nat.ble 163 i then 0 else 0) else 0)))) else (bif Nat.ble 149 i then (bif Nat.ble 155 i then (bif Nat.ble 158 i then (bif Nat.ble 159 i then (bif Nat.ble 160 i then 15 else 1) else 0) else (bif Nat.ble 156 i then (bif Nat.ble 157 i then 15 else 0) else 15)) else (bif Nat.ble 152 i then (bif Nat.ble 153 i then (bif Nat.ble 154 i then 3 else 0) else 0) else (bif Nat.ble 150 i then (bif Nat.ble 151 i then 15 else 0) else 15))) else (bif Nat.ble 143 i then (bif Nat.ble 146 i then (bif Nat.ble 147 i then (bif Nat.ble 148 i then 7 else 0) else 15) else (bif Nat.ble 144 i then (bif Nat.ble 145 i then 0 else 0) else 0)) else (bif Nat.ble 140 i then (bif Nat.ble 141 i then (bif Nat.ble 142 i then 0 else 15) else 0) else (bif Nat.ble 139 i then 0 else 0))))) else (bif Nat.ble 115 i then (bif Nat.ble 126 i then (bif Nat.ble 132 i then (bif Nat.ble 135 i then (bif Nat.ble 136 i then (bif Nat.ble 137 i then 15 else 0) else 15) else (bif Nat.ble 133 i then (bif Nat.ble 134 i then 0 else 0) else 0)) else (bif Nat.ble 129 i then (bif Nat.ble 130 i then (bif Nat.ble 131 i then 0 else 15) else 0) else (bif Nat.ble 127 i then (bif Nat.ble 128 i then 0 else 15) else 13))) else (bif Nat.ble 120 i then (bif Nat.ble 123 i then (bif Nat.ble 124 i then (bif Nat.ble 125 i then 5 else 12) else 0) else (bif Nat.ble 121 i then (bif Nat.ble 122 i then 15 else 11) else 9)) else (bif Nat.ble 117 i then (bif Nat.ble 118 i then (bif Nat.ble 119 i then 1 else 9) else 9) else (bif Nat.ble 116 i then 9 else 9)))) else (bif Nat.ble 103 i then (bif Nat.ble 109 i then (bif Nat.ble 112 i then (bif Nat.ble 113 i then (bif Nat.ble 114 i then 9 else 9) else 11) else (bif Nat.ble 110 i then (bif Nat.ble 111 i then 9 else 9) else 9)) else (bif Nat.ble 106 i then (bif Nat.ble 107 i then (bif Nat.ble 108 i then 2 else 9) else 9) else (bif Nat.ble 104 i then (bif Nat.ble 105 i then 1 else 9) else 9))) else (bif Nat.ble 97 i then (bif Nat.ble 100 i then (bif Nat.ble 101 i then (bif Nat.ble 102 i then 2 else 12) else 12) else (bif Nat.ble 98 i then (bif Nat.ble 99 i then 12 else 11) else 12)) else (bif Nat.ble 94 i then (bif Nat.ble 95 i then (bif Nat.ble 96 i then 12 else 11) else 11) else (bif Nat.ble 93 i then 11 else 19)))))) else (bif Nat.ble 46 i then (bif Nat.ble 69 i then (bif Nat.ble 80 i then (bif Nat.ble 86 i then (bif Nat.ble 89 i then (bif Nat.ble 90 i then (bif Nat.ble 91 i then 19 else 19) else 19) else (bif Nat.ble 87 i then (bif Nat.ble 88 i then 18 else 16) else 17)) else (bif Nat.ble 83 i then (bif Nat.ble 84 i then (bif Nat.ble 85 i then 16 else 16) else 16) else (bif Nat.ble 81 i then (bif Nat.ble 82 i then 16 else 11) else 12))) else (bif Nat.ble 74 i then (bif Nat.ble 77 i then (bif Nat.ble 78 i then (bif Nat.ble 79 i then 12 else 11) else 11) else (bif Nat.ble 75 i then (bif Nat.ble 76 i then 11 else 11) else 9)) else (bif Nat.ble 71 i then (bif Nat.ble 72 i then (bif Nat.ble 73 i then 12 else 10) else 0) else (bif Nat.ble 70 i then 15 else 3)))) else (bif Nat.ble 57 i then (bif Nat.ble 63 i then (bif Nat.ble 66 i then (bif Nat.ble 67 i then (bif Nat.ble 68 i then 0 else 0) else 0) else (bif Nat.ble 64 i then (bif Nat.ble 65 i then 0 else 0) else 0)) else (bif Nat.ble 60 i then (bif Nat.ble 61 i then (bif Nat.ble 62 i then 3 else 0) else 0) else (bif Nat.ble 58 i then (bif Nat.ble 59 i then 0 else 2) else 1))) else (bif Nat.ble 51 i then (bif Nat.ble 54 i then (bif Nat.ble 55 i then (bif Nat.ble 56 i then 3 else 3) else 0) else (bif Nat.ble 52 i then (bif Nat.ble 53 i then 0 else 0) else 0)) else (bif Nat.ble 48 i then (bif Nat.ble 49 i then (bif Nat.ble 50 i then 0 else 14) else 0) else (bif Nat.ble 47 i then 0 else 0))))) else (bif Nat.ble 23 i then (bif Nat.ble 34 i then (bif Nat.ble 40 i then (bif Nat.ble 43 i then (bif Nat.ble 44 i then (bif Nat.ble 45 i then 2 else 4) else 7) else (bif Nat.ble 41 i then (bif Nat.ble 42 i then 4 else 13) else 13)) else (bif Nat.ble 37 i then (bif Nat.ble 38 i then (bif Nat.ble 39 i then 4 else 5) else 4) else (bif Nat.ble 35 i then (bif Nat.ble 36 i then 4 else 4) else 4))) else (bif Nat.ble 28 i then (bif Nat.ble 31 i then (bif Nat.ble 32 i then (bif Nat.ble 33 i then 7 else 7) else 7) else (bif Nat.ble 29 i then (bif Nat.ble 30 i then 7 else 7) else 1)) else (bif Nat.ble 25 i then (bif Nat.ble 26 i then (bif Nat.ble 27 i then 7 else 6) else 2) else (bif Nat.ble 24 i then 0 else 0)))) else (bif Nat.ble 11 i then (bif Nat.ble 17 i then (bif Nat.ble 20 i then (bif Nat.ble 21 i then (bif Nat.ble 22 i then 0 else 0) else 0) else (bif Nat.ble 18 i then (bif Nat.ble 19 i then 0 else 12) else 11)) else (bif Nat.ble 14 i then (bif Nat.ble 15 i then (bif Nat.ble 16 i then 10 else 9) else 8) else (bif Nat.ble 12 i then (bif Nat.ble 13 i then 7 else 4) else 6))) else (bif Nat.ble 5 i then (bif Nat.ble 8 i then (bif Nat.ble 9 i then (bif Nat.ble 10 i then 2 else 2) else 5) else (bif Nat.ble 6 i then (bif Nat.ble 7 i then 4 else 4) else 4)) else (bif Nat.ble 2 i then (bif Nat.ble 3 i then (bif Nat.ble 4 i then 4 else 3) else 2) else (bif Nat.ble 1 i then 1 else 0))))))))
noncomputable def gm_rt (i : Nat) : Option FieldType := bif Nat.ble 371 i then none else (bif Nat.ble 185 i then (bif Nat.ble 278 i then (bif Nat.ble 324 i then (bif Nat.ble 347 i then (bif Nat.ble 359 i then (bif Nat.ble 365 i then (bif Nat.ble 368 i then (bif Nat.ble 369 i then (bif Nat.ble 370 i then (some .boolean) else (some .int)) else (some .int)) else (bif Nat.ble 366 i then (bif Nat.ble 367 i then (some .int) else (some .int)) else (some .int))) else (bif Nat.ble 362 i then (bif Nat.ble 363 i then (bif Nat.ble 364 i then (some .int) else (some .int)) else (some .int)) else (bif Nat.ble 360 i then (bif Nat.ble 361 i then (some .int) else (some .int)) else (some .int)))) else (bif Nat.ble 353 i then (bif Nat.ble 356 i then (bif Nat.ble 357 i then (bif Nat.ble 358 i then none else (some .int)) else (some .int)) else (bif Nat.ble 354 i then (bif Nat.ble 355 i then (some .int) else (some .int)) else (some .int))) else (bif Nat.ble 350 i then (bif Nat.ble 351 i then (bif Nat.ble 352 i then (some .boolean) else (some .int)) else none) else (bif Nat.ble 348 i then (bif Nat.ble 349 i then (some .int) else (some .int)) else (some .int))))) else (bif Nat.ble 335 i then (bif Nat.ble 341 i then (bif Nat.ble 344 i then (bif Nat.ble 345 i then (bif Nat.ble 346 i then (some .boolean) else (some .boolean)) else (some .boolean)) else (bif Nat.ble 342 i then (bif Nat.ble 343 i then (some .int) else (some .boolean)) else (some .int))) else (bif Nat.ble 338 i then (bif Nat.ble 339 i then (bif Nat.ble 340 i then (some .int) else (some .int)) else (some .int)) else (bif Nat.ble 336 i then (bif Nat.ble 337 i then (some .boolean) else (some .boolean)) else none))) else (bif Nat.ble 329 i then (bif Nat.ble 332 i then (bif Nat.ble 333 i then (bif Nat.ble 334 i then (some .int) else (some .int)) else none) else (bif Nat.ble 330 i then (bif Nat.ble 331 i then (some .int) else (some .int)) else (some .int))) else (bif Nat.ble 326 i then (bif Nat.ble 327 i then (bif Nat.ble 328 i then (some .int) else (some .int)) else (some .int)) else (bif Nat.ble 325 i then (some .int) else (some .int)))))) else (bif Nat.ble 301 i then (bif Nat.ble 312 i then (bif Nat.ble 318 i then (bif Nat.ble 321 i then (bif Nat.ble 322 i then (bif Nat.ble 323 i then (some .boolean) else (some .int)) else (some .int)) else (bif Nat.ble 319 i then (bif Nat.ble 320 i then (some .int) else none) else (some .int))) else (bif Nat.ble 315 i then (bif Nat.ble 316 i then (bif Nat.ble 317 i then (some .int) else none) else (some .int)) else (bif Nat.ble 313 i then (bif Nat.ble 314 i then (some .int) else (some .int)) else (some .boolean)))) else (bif Nat.ble 306 i then (bif Nat.ble 309 i then (bif Nat.ble 310 i then (bif Nat.ble 311 i then (some .boolean) else (some .int)) else (some .boolean)) else (bif Nat.ble 307 i then (bif Nat.ble 308 i then (some .int) else (some .int)) else none)) else (bif Nat.ble 303 i then (bif Nat.ble 304 i then (bif Nat.ble 305 i then none else (some .int)) else (some .boolean)) else (bif Nat.ble 302 i then (some .boolean) else (some .int))))) else (bif Nat.ble 289 i then (bif Nat.ble 295 i then (bif Nat.ble 298 i then (bif Nat.ble 299 i then (bif Nat.ble 300 i then (some .int) else (some .int)) else (some .boolean)) else (bif Nat.ble 296 i then (bif Nat.ble 297 i then (some .int) else (some .int)) else (some .boolean))) else (bif Nat.ble 292 i then (bif Nat.ble 293 i then (bif Nat.ble 294 i then (some .int) else none) else (some .int)) else (bif Nat.ble 290 i then (bif Nat.ble 291 i then (some .int) else (some .int)) else (some .boolean)))) else (bif Nat.ble 283 i then (bif Nat.ble 286 i then (bif Nat.ble 287 i then (bif Nat.ble 288 i then (some .boolean) else (some .int)) else (some .boolean)) else (bif Nat.ble 284 i then (bif Nat.ble 285 i then (some .boolean) else (some .int)) else (some .int))) else (bif Nat.ble 280 i then (bif Nat.ble 281 i then (bif Nat.ble 282 i then (some .boolean) else (some .boolean)) else (some .boolean)) else (bif Nat.ble 279 i then none else (some .boolean))))))) else (bif Nat.ble 231 i then (bif Nat.ble 254 i then (bif Nat.ble 266 i then (bif Nat.ble 272 i then (bif Nat.ble 275 i then (bif Nat.ble 276 i then (bif Nat.ble 277 i then (some .boolean) else (some .boolean)) else (some .boolean)) else (bif Nat.ble 273 i then (bif Nat.ble 274 i then (some .boolean) else (some .boolean)) else none)) else (bif Nat.ble 269 i then (bif Nat.ble 270 i then (bif Nat.ble 271 i then none else (some .boolean)) else (some .boolean)) else (bif Nat.ble 267 i then (bif Nat.ble 268 i then (some .int) else (some .boolean)) else (some .int)))) else (bif Nat.ble 260 i then (bif Nat.ble 263 i then (bif Nat.ble 264 i then (bif Nat.ble 265 i then (some .boolean) else (some .int)) else (some .int)) else (bif Nat.ble 261 i then (bif Nat.ble 262 i then (some .boolean) else (some .int)) else (some .boolean))) else (bif Nat.ble 257 i then (bif Nat.ble 258 i then (bif Nat.ble 259 i then (some .int) else (some .boolean)) else (some .boolean)) else (bif Nat.ble 255 i then (bif Nat.ble 256 i then (some .int) else (some .int)) else (some .int))))) else (bif Nat.ble 242 i then (bif Nat.ble 248 i then (bif Nat.ble 251 i then (bif Nat.ble 252 i then (bif Nat.ble 253 i then (some .int) else (some .boolean)) else (some .boolean)) else (bif Nat.ble 249 i then (bif Nat.ble 250 i then (some .boolean) else (some .boolean)) else none)) else (bif Nat.ble 245 i then (bif Nat.ble 246 i then (bif Nat.ble 247 i then (some .boolean) else (some .boolean)) else none) else (bif Nat.ble 243 i then (bif Nat.ble 244 i then none else (some .int)) else (some .int)))) else (bif Nat.ble 236 i then (bif Nat.ble 239 i then (bif Nat.ble 240 i then (bif Nat.ble 241 i then (some .int) else (some .boolean)) else (some .int)) else (bif Nat.ble 237 i then (bif Nat.ble 238 i then (some .boolean) else (some .boolean)) else none)) else (bif Nat.ble 233 i then (bif Nat.ble 234 i then (bif Nat.ble 235 i then none else none) else (some .int)) else (bif Nat.ble 232 i then (some .int) else (some .int)))))) else (bif Nat.ble 208 i then (bif Nat.ble 219 i then (bif Nat.ble 225 i then (bif Nat.ble 228 i then (bif Nat.ble 229 i then (bif Nat.ble 230 i then (some .int) else (some .int)) else (some .int)) else (bif Nat.ble 226 i then (bif Nat.ble 227 i then (some .int) else (some .int)) else (some .int))) else (bif Nat.ble 222 i then (bif Nat.ble 223 i then (bif Nat.ble 224 i then (some .int) else (some .int)) else (some .int)) else (bif Nat.ble 220 i then (bif Nat.ble 221 i then (some .int) else (some .int)) else (some .int)))) else (bif Nat.ble 213 i then (bif Nat.ble 216 i then (bif Nat.ble 217 i then (bif Nat.ble 218 i then (some .int) else (some .int)) else (some .int)) else (bif Nat.ble 214 i then (bif Nat.ble 215 i then none else none) else (some .int))) else (bif Nat.ble 210 i then (bif Nat.ble 211 i then (bif Nat.ble 212 i then (some .int) else (some .int)) else (some .int)) else (bif Nat.ble 209 i then (some .int) else (some .int))))) else (bif Nat.ble 196 i then (bif Nat.ble 202 i then (bif Nat.ble 205 i then (bif Nat.ble 206 i then (bif Nat.ble 207 i then (some .int) else (some .int)) else (some .int)) else (bif Nat.ble 203 i then (bif Nat.ble 204 i then (some .int) else none) else none)) else (bif Nat.ble 199 i then (bif Nat.ble 200 i then (bif Nat.ble 201 i then (some .int) else (some .int)) else (some .boolean)) else (bif Nat.ble 197 i then (bif Nat.ble 198 i then (some .boolean) else (some .int)) else (some .int)))) else (bif Nat.ble 190 i then (bif Nat.ble 193 i then (bif Nat.ble 194 i then (bif Nat.ble 195 i then (some .boolean) else (some .int)) else none) else (bif Nat.ble 191 i then (bif Nat.ble 192 i then (some .int) else (some .int)) else (some .int))) else (bif Nat.ble 187 i then (bif Nat.ble 188 i then (bif Nat.ble 189 i then (some .int) else (some .int)) else none) else (bif Nat.ble 186 i then (some .int) else (some .int)))))))) else (bif Nat.ble 92 i then (bif Nat.ble 138 i then (bif Nat.ble 161 i then (bif Nat.ble 173 i then (bif Nat.ble 179 i then (bif Nat.ble 182 i then (bif Nat.ble 183 i then (bif Nat.ble 184 i then none else (some .boolean)) else (some .int)) else (bif Nat.ble 180 i then (bif Nat.ble 181 i then (some .boolean) else (some .boolean)) else (some .int))) else (bif Nat.ble 176 i then (bif Nat.ble 177 i then (bif Nat.ble 178 i then (some .int) else (some .int)) else (some .int)) else (bif Nat.ble 174 i then (bif Nat.ble 175 i then none else (some .int)) else (some .int)))) else (bif Nat.ble 167 i then (bif Nat.ble 170 i then (bif Nat.ble 171 i then (bif Nat.ble 172 i then (some .int) else (some .int)) else none) else (bif Nat.ble 168 i then (bif Nat.ble 169 i then (some .int) else (some .int)) else (some .int))) else (bif Nat.ble 164 i then (bif Nat.ble 165 i then (bif Nat.ble 166 i then (some .int) else (some .boolean)) else (some .boolean)) else (bif Nat.ble 162 i then (bif Nat.ble 163 i then (some .int) else (some .int)) else (some .int))))) else (bif Nat.ble 149 i then (bif Nat.ble 155 i then (bif Nat.ble 158 i then (bif Nat.ble 159 i then (bif Nat.ble 160 i then (some .int) else none) else (some .int)) else (bif Nat.ble 156 i then (bif Nat.ble 157 i then (some .int) else (some .int)) else (some .int))) else (bif Nat.ble 152 i then (bif Nat.ble 153 i then (bif Nat.ble 154 i then none else none) else (some .int)) else (bif Nat.ble 150 i then (bif Nat.ble 151 i then (some .int) else (some .int)) else (some .int)))) else (bif Nat.ble 143 i then (bif Nat.ble 146 i then (bif Nat.ble 147 i then (bif Nat.ble 148 i then none else (some .int)) else (some .int)) else (bif Nat.ble 144 i then (bif Nat.ble 145 i then (some .int) else (some .int)) else none)) else (bif Nat.ble 140 i then (bif Nat.ble 141 i then (bif Nat.ble 142 i then (some .int) else (some .int)) else (some .int)) else (bif Nat.ble 139 i then none else (some .int)))))) else (bif Nat.ble 115 i then (bif Nat.ble 126 i then (bif Nat.ble 132 i then (bif Nat.ble 135 i then (bif Nat.ble 136 i then (bif Nat.ble 137 i then (some .int) else (some .int)) else (some .int)) else (bif Nat.ble 133 i then (bif Nat.ble 134 i then none else none) else none)) else (bif Nat.ble 129 i then (bif Nat.ble 130 i then (bif Nat.ble 131 i then (some .int) else (some .int)) else none) else (bif Nat.ble 127 i then (bif Nat.ble 128 i then (some .int) else (some .int)) else none))) else (bif Nat.ble 120 i then (bif Nat.ble 123 i then (bif Nat.ble 124 i then (bif Nat.ble 125 i then (some (.array .int)) else (some (.object "GlacierMail$Law"))) else (some .int)) else (bif Nat.ble 121 i then (bif Nat.ble 122 i then (some .int) else (some .int)) else (some .boolean))) else (bif Nat.ble 117 i then (bif Nat.ble 118 i then (bif Nat.ble 119 i then (some .int) else (some .boolean)) else (some .int)) else (bif Nat.ble 116 i then (some .boolean) else (some .boolean))))) else (bif Nat.ble 103 i then (bif Nat.ble 109 i then (bif Nat.ble 112 i then (bif Nat.ble 113 i then (bif Nat.ble 114 i then (some .boolean) else (some .boolean)) else (some .boolean)) else (bif Nat.ble 110 i then (bif Nat.ble 111 i then (some .int) else (some .boolean)) else (some .boolean))) else (bif Nat.ble 106 i then (bif Nat.ble 107 i then (bif Nat.ble 108 i then (some .boolean) else (some .boolean)) else (some .boolean)) else (bif Nat.ble 104 i then (bif Nat.ble 105 i then (some .boolean) else (some .boolean)) else (some .boolean)))) else (bif Nat.ble 97 i then (bif Nat.ble 100 i then (bif Nat.ble 101 i then (bif Nat.ble 102 i then (some .int) else (some .int)) else (some .boolean)) else (bif Nat.ble 98 i then (bif Nat.ble 99 i then none else (some .boolean)) else (some .boolean))) else (bif Nat.ble 94 i then (bif Nat.ble 95 i then (bif Nat.ble 96 i then (some .boolean) else (some .boolean)) else (some .int)) else (bif Nat.ble 93 i then (some .boolean) else (some .char))))))) else (bif Nat.ble 46 i then (bif Nat.ble 69 i then (bif Nat.ble 80 i then (bif Nat.ble 86 i then (bif Nat.ble 89 i then (bif Nat.ble 90 i then (bif Nat.ble 91 i then (some .int) else none) else (some .char)) else (bif Nat.ble 87 i then (bif Nat.ble 88 i then (some .int) else none) else (some .char))) else (bif Nat.ble 83 i then (bif Nat.ble 84 i then (bif Nat.ble 85 i then (some .boolean) else (some .char)) else (some .byte)) else (bif Nat.ble 81 i then (bif Nat.ble 82 i then (some .int) else (some .boolean)) else (some .int)))) else (bif Nat.ble 74 i then (bif Nat.ble 77 i then (bif Nat.ble 78 i then (bif Nat.ble 79 i then (some .boolean) else (some .boolean)) else (some .boolean)) else (bif Nat.ble 75 i then (bif Nat.ble 76 i then none else none) else none)) else (bif Nat.ble 71 i then (bif Nat.ble 72 i then (bif Nat.ble 73 i then none else (some .int)) else (some .int)) else (bif Nat.ble 70 i then (some .int) else (some .int))))) else (bif Nat.ble 57 i then (bif Nat.ble 63 i then (bif Nat.ble 66 i then (bif Nat.ble 67 i then (bif Nat.ble 68 i then (some .int) else (some .boolean)) else (some .boolean)) else (bif Nat.ble 64 i then (bif Nat.ble 65 i then (some .int) else (some .int)) else (some .int))) else (bif Nat.ble 60 i then (bif Nat.ble 61 i then (bif Nat.ble 62 i then none else none) else (some .boolean)) else (bif Nat.ble 58 i then (bif Nat.ble 59 i then none else none) else none))) else (bif Nat.ble 51 i then (bif Nat.ble 54 i then (bif Nat.ble 55 i then (bif Nat.ble 56 i then (some (.object "GlacierMail$State")) else (some .boolean)) else (some .boolean)) else (bif Nat.ble 52 i then (bif Nat.ble 53 i then (some .int) else (some .int)) else (some .boolean))) else (bif Nat.ble 48 i then (bif Nat.ble 49 i then (bif Nat.ble 50 i then (some .boolean) else (some .int)) else (some .int)) else (bif Nat.ble 47 i then (some .int) else (some .int)))))) else (bif Nat.ble 23 i then (bif Nat.ble 34 i then (bif Nat.ble 40 i then (bif Nat.ble 43 i then (bif Nat.ble 44 i then (bif Nat.ble 45 i then none else (some .int)) else none) else (bif Nat.ble 41 i then (bif Nat.ble 42 i then none else (some .boolean)) else (some .int))) else (bif Nat.ble 37 i then (bif Nat.ble 38 i then (bif Nat.ble 39 i then none else none) else (some .int)) else (bif Nat.ble 35 i then (bif Nat.ble 36 i then (some .int) else (some .int)) else (some .int)))) else (bif Nat.ble 28 i then (bif Nat.ble 31 i then (bif Nat.ble 32 i then (bif Nat.ble 33 i then (some .int) else none) else (some .boolean)) else (bif Nat.ble 29 i then (bif Nat.ble 30 i then (some .int) else none) else (some .boolean))) else (bif Nat.ble 25 i then (bif Nat.ble 26 i then (bif Nat.ble 27 i then none else (some .int)) else none) else (bif Nat.ble 24 i then none else (some .int))))) else (bif Nat.ble 11 i then (bif Nat.ble 17 i then (bif Nat.ble 20 i then (bif Nat.ble 21 i then (bif Nat.ble 22 i then (some .int) else (some .boolean)) else none) else (bif Nat.ble 18 i then (bif Nat.ble 19 i then (some .int) else none) else none)) else (bif Nat.ble 14 i then (bif Nat.ble 15 i then (bif Nat.ble 16 i then none else none) else none) else (bif Nat.ble 12 i then (bif Nat.ble 13 i then none else none) else (some .int)))) else (bif Nat.ble 5 i then (bif Nat.ble 8 i then (bif Nat.ble 9 i then (bif Nat.ble 10 i then (some .int) else (some .int)) else none) else (bif Nat.ble 6 i then (bif Nat.ble 7 i then none else none) else none)) else (bif Nat.ble 2 i then (bif Nat.ble 3 i then (bif Nat.ble 4 i then none else none) else none) else (bif Nat.ble 1 i then none else none))))))))
end
/-! 01a0.dc -/
section
/-! INSTRUCTIONS' lengths, and what a table's row says (laid by wip/am/gen_tables.py). -/
noncomputable def gm_len : Instr → Nat
  | .bipush _ | .ldc _ | .iload _ | .istore _ | .aload _ | .astore _ | .lload _ | .lstore _ | .newarray _ => 2
  | .sipush _ | .ldc_w _ | .ldc2_w _ | .iinc _ _ | .ifCond _ _ | .if_icmp _ _ | .if_acmp _ _ | .goto _ | .ifnull _ | .ifnonnull _ | .getfield _ | .putfield _ | .getstatic _ | .invokevirtual _ | .invokespecial _ | .invokestatic _ | .new _ | .anewarray _ | .checkcast _ => 3
  | _ => 1
noncomputable def gm_sw : Instr → Bool
  | .tableswitch .. => true
  | .lookupswitch .. => true
  | _ => false
noncomputable def gm_ck1 (b : ByteArray) (q : Nat × Instr) : Bool := match decode b q.1 with | .ok x => decide (x.1 = q.2) && (gm_sw q.2 || decide (x.2 = gm_len q.2)) | .error _ => false
noncomputable def gm_ckm (b : ByteArray) (l : List (List (Nat × Instr))) : Bool := l.all fun r => r.all (gm_ck1 b)
/-! THE DECODER, by shapes: what an instruction's bytes are (laid by wip/rel/dec.py). -/
section DEC
variable {b : ByteArray} {pc n : Nat} {r : List UInt8} {i : Instr}
theorem gm_rd1 {x : UInt8} (h : b.data.toList.drop pc = x :: r) : (Reader.u1 : Decoder Nat) b pc = .ok (x.toNat, pc + 1) ∧ b.data.toList.drop (pc + 1) = r := by
  have h2 : b.data.toList[pc]? = some x := by rw [← List.head?_drop, h]; rfl
  have hs : pc < b.size := (List.getElem?_eq_some_iff.mp h2).1
  have hx : b[pc] = x := (List.getElem?_eq_some_iff.mp h2).2
  refine ⟨?_, ?_⟩
  · show (dite (pc < b.size) (fun h => (do set (pc + 1); pure (b[pc]'h).toNat : Decoder Nat)) (fun _ => throw (HasTruncated.truncated pc))) b pc = _
    rw [dif_pos hs]
    show Except.ok ((b[pc]'hs).toNat, pc + 1) = _
    rw [hx]
  · rw [← List.drop_drop, h]; rfl
theorem gm_bnd {α β : Type} {m : Decoder α} {f : α → Decoder β} {p p' : Nat} {v : α} {z : Except DecodeError (β × Nat)} (h1 : m b p = .ok (v, p')) (h2 : f v b p' = z) : (m >>= f) b p = z := by
  show Except.bind (m b p) (fun q => f q.1 b q.2) = z
  rw [h1]
  exact h2
theorem gm_mpd {α β : Type} {m : Decoder α} {f : α → β} {p p' : Nat} {v : α} (h1 : m b p = .ok (v, p')) : (f <$> m : Decoder β) b p = .ok (f v, p') := by
  show Except.bind (m b p) (fun q => .ok (f q.1, q.2)) = _
  rw [h1]
  rfl
theorem gm_dcd (h : Decoder.instr pc b pc = .ok (i, pc + n)) : decode b pc = .ok (i, n) := by
  show Except.bind (Decoder.instr pc b pc) (fun q => .ok (q.1, q.2 - pc)) = _
  rw [h]
  show Except.ok (i, pc + n - pc) = _
  rw [Nat.add_sub_cancel_left]
theorem gm_rd2 {x y : UInt8} (h : b.data.toList.drop pc = x :: y :: r) : (Reader.u2 : Decoder Nat) b pc = .ok (x.toNat * 256 + y.toNat, pc + 2) ∧ b.data.toList.drop (pc + 2) = r := by
  have h1 := gm_rd1 h
  have h2 := gm_rd1 h1.2
  refine ⟨?_, h2.2⟩
  unfold Reader.u2
  exact gm_bnd h1.1 (gm_bnd h2.1 rfl)
theorem gm_rds1 {x : UInt8} (h : b.data.toList.drop pc = x :: r) : (Reader.s1 : Decoder Int) b pc = .ok (Reader.signed 8 x.toNat, pc + 1) := gm_mpd (gm_rd1 h).1
theorem gm_rds2 {x y : UInt8} (h : b.data.toList.drop pc = x :: y :: r) : (Reader.s2 : Decoder Int) b pc = .ok (Reader.signed 16 (x.toNat * 256 + y.toNat), pc + 2) := gm_mpd (gm_rd2 h).1
/-! bytes by a shape: none, a number of one byte, a signed one, of two bytes, a signed one, two of one byte -/
noncomputable def gm_f0 (op : Nat) : List UInt8 → Option (Nat × List UInt8)
  | x :: r => bif Nat.beq x.toNat op then some (1, r) else none
  | _ => none
noncomputable def gm_f1 (op : Nat) (a : Int) : List UInt8 → Option (Nat × List UInt8)
  | x :: y :: r => bif Nat.beq x.toNat op && decide ((y.toNat : Int) = a) then some (2, r) else none
  | _ => none
noncomputable def gm_f2 (op : Nat) (a : Int) : List UInt8 → Option (Nat × List UInt8)
  | x :: y :: r => bif Nat.beq x.toNat op && decide (Reader.signed 8 y.toNat = a) then some (2, r) else none
  | _ => none
noncomputable def gm_f3 (op : Nat) (a : Int) : List UInt8 → Option (Nat × List UInt8)
  | x :: y :: z :: r => bif Nat.beq x.toNat op && decide (((y.toNat * 256 + z.toNat : Nat) : Int) = a) then some (3, r) else none
  | _ => none
noncomputable def gm_f4 (op : Nat) (a : Int) : List UInt8 → Option (Nat × List UInt8)
  | x :: y :: z :: r => bif Nat.beq x.toNat op && decide (Reader.signed 16 (y.toNat * 256 + z.toNat) = a) then some (3, r) else none
  | _ => none
noncomputable def gm_f5 (op : Nat) (a c : Int) : List UInt8 → Option (Nat × List UInt8)
  | x :: y :: z :: r => bif Nat.beq x.toNat op && (decide ((y.toNat : Int) = a) && decide (Reader.signed 8 z.toNat = c)) then some (3, r) else none
  | _ => none
noncomputable def gm_fit (p : Nat × Nat × Int × Int) (l : List UInt8) : Option (Nat × List UInt8) := match p.1 with
  | 0 => gm_f0 p.2.1 l
  | 1 => gm_f1 p.2.1 p.2.2.1 l
  | 2 => gm_f2 p.2.1 p.2.2.1 l
  | 3 => gm_f3 p.2.1 p.2.2.1 l
  | 4 => gm_f4 p.2.1 p.2.2.1 l
  | 5 => gm_f5 p.2.1 p.2.2.1 p.2.2.2 l
  | _ => none
variable {l : List UInt8} {op : Nat} {a c : Int}
theorem gm_g0 (h : gm_f0 op l = some (n, r)) : ∃ x, l = x :: r ∧ x.toNat = op ∧ n = 1 := by
  cases l with
  | nil => cases h
  | cons x t =>
    have h : (bif Nat.beq x.toNat op then some (1, t) else none) = some (n, r) := h
    cases e : Nat.beq x.toNat op with
    | false => rw [e] at h; cases h
    | true => rw [e] at h; cases h; exact ⟨x, rfl, Nat.eq_of_beq_eq_true e, rfl⟩
theorem gm_g1 (h : gm_f1 op a l = some (n, r)) : ∃ x y, l = x :: y :: r ∧ x.toNat = op ∧ (y.toNat : Int) = a ∧ n = 2 := by
  match l, h with
  | x :: y :: t, h =>
    have h : (bif Nat.beq x.toNat op && decide ((y.toNat : Int) = a) then some (2, t) else none) = some (n, r) := h
    cases e : (Nat.beq x.toNat op && decide ((y.toNat : Int) = a)) with
    | false => rw [e] at h; cases h
    | true =>
      rw [e] at h; cases h
      simp only [Bool.and_eq_true, decide_eq_true_eq] at e
      exact ⟨x, y, rfl, Nat.eq_of_beq_eq_true e.1, e.2, rfl⟩
  | [x], h => cases h
  | [], h => cases h
theorem gm_g2 (h : gm_f2 op a l = some (n, r)) : ∃ x y, l = x :: y :: r ∧ x.toNat = op ∧ Reader.signed 8 y.toNat = a ∧ n = 2 := by
  match l, h with
  | x :: y :: t, h =>
    have h : (bif Nat.beq x.toNat op && decide (Reader.signed 8 y.toNat = a) then some (2, t) else none) = some (n, r) := h
    cases e : (Nat.beq x.toNat op && decide (Reader.signed 8 y.toNat = a)) with
    | false => rw [e] at h; cases h
    | true =>
      rw [e] at h; cases h
      simp only [Bool.and_eq_true, decide_eq_true_eq] at e
      exact ⟨x, y, rfl, Nat.eq_of_beq_eq_true e.1, e.2, rfl⟩
  | [x], h => cases h
  | [], h => cases h
theorem gm_g3 (h : gm_f3 op a l = some (n, r)) : ∃ x y z, l = x :: y :: z :: r ∧ x.toNat = op ∧ ((y.toNat * 256 + z.toNat : Nat) : Int) = a ∧ n = 3 := by
  match l, h with
  | x :: y :: z :: t, h =>
    have h : (bif Nat.beq x.toNat op && decide (((y.toNat * 256 + z.toNat : Nat) : Int) = a) then some (3, t) else none) = some (n, r) := h
    cases e : (Nat.beq x.toNat op && decide (((y.toNat * 256 + z.toNat : Nat) : Int) = a)) with
    | false => rw [e] at h; cases h
    | true =>
      rw [e] at h; cases h
      simp only [Bool.and_eq_true, decide_eq_true_eq] at e
      exact ⟨x, y, z, rfl, Nat.eq_of_beq_eq_true e.1, e.2, rfl⟩
  | [x, y], h => cases h
  | [x], h => cases h
  | [], h => cases h
theorem gm_g4 (h : gm_f4 op a l = some (n, r)) : ∃ x y z, l = x :: y :: z :: r ∧ x.toNat = op ∧ Reader.signed 16 (y.toNat * 256 + z.toNat) = a ∧ n = 3 := by
  match l, h with
  | x :: y :: z :: t, h =>
    have h : (bif Nat.beq x.toNat op && decide (Reader.signed 16 (y.toNat * 256 + z.toNat) = a) then some (3, t) else none) = some (n, r) := h
    cases e : (Nat.beq x.toNat op && decide (Reader.signed 16 (y.toNat * 256 + z.toNat) = a)) with
    | false => rw [e] at h; cases h
    | true =>
      rw [e] at h; cases h
      simp only [Bool.and_eq_true, decide_eq_true_eq] at e
      exact ⟨x, y, z, rfl, Nat.eq_of_beq_eq_true e.1, e.2, rfl⟩
  | [x, y], h => cases h
  | [x], h => cases h
  | [], h => cases h
theorem gm_g5 (h : gm_f5 op a c l = some (n, r)) : ∃ x y z, l = x :: y :: z :: r ∧ x.toNat = op ∧ (y.toNat : Int) = a ∧ Reader.signed 8 z.toNat = c ∧ n = 3 := by
  match l, h with
  | x :: y :: z :: t, h =>
    have h : (bif Nat.beq x.toNat op && (decide ((y.toNat : Int) = a) && decide (Reader.signed 8 z.toNat = c)) then some (3, t) else none) = some (n, r) := h
    cases e : (Nat.beq x.toNat op && (decide ((y.toNat : Int) = a) && decide (Reader.signed 8 z.toNat = c))) with
    | false => rw [e] at h; cases h
    | true =>
      rw [e] at h; cases h
      simp only [Bool.and_eq_true, decide_eq_true_eq] at e
      exact ⟨x, y, z, rfl, Nat.eq_of_beq_eq_true e.1, e.2.1, e.2.2, rfl⟩
  | [x, y], h => cases h
  | [x], h => cases h
  | [], h => cases h
theorem gm_e_iaload {x : UInt8} (h : b.data.toList.drop pc = x :: r) (hx : x.toNat = 46) : decode b pc = .ok (.iaload, 1) := by
  have h1 := gm_rd1 h
  have h2 := h1.1
  rw [hx] at h2
  refine gm_dcd (show Decoder.instr pc b pc = .ok (.iaload, pc + 1) from ?_)
  unfold Decoder.instr
  exact gm_bnd h2 (rfl)
theorem gm_e_laload {x : UInt8} (h : b.data.toList.drop pc = x :: r) (hx : x.toNat = 47) : decode b pc = .ok (.laload, 1) := by
  have h1 := gm_rd1 h
  have h2 := h1.1
  rw [hx] at h2
  refine gm_dcd (show Decoder.instr pc b pc = .ok (.laload, pc + 1) from ?_)
  unfold Decoder.instr
  exact gm_bnd h2 (rfl)
theorem gm_e_aaload {x : UInt8} (h : b.data.toList.drop pc = x :: r) (hx : x.toNat = 50) : decode b pc = .ok (.aaload, 1) := by
  have h1 := gm_rd1 h
  have h2 := h1.1
  rw [hx] at h2
  refine gm_dcd (show Decoder.instr pc b pc = .ok (.aaload, pc + 1) from ?_)
  unfold Decoder.instr
  exact gm_bnd h2 (rfl)
theorem gm_e_baload {x : UInt8} (h : b.data.toList.drop pc = x :: r) (hx : x.toNat = 51) : decode b pc = .ok (.baload, 1) := by
  have h1 := gm_rd1 h
  have h2 := h1.1
  rw [hx] at h2
  refine gm_dcd (show Decoder.instr pc b pc = .ok (.baload, pc + 1) from ?_)
  unfold Decoder.instr
  exact gm_bnd h2 (rfl)
theorem gm_e_iastore {x : UInt8} (h : b.data.toList.drop pc = x :: r) (hx : x.toNat = 79) : decode b pc = .ok (.iastore, 1) := by
  have h1 := gm_rd1 h
  have h2 := h1.1
  rw [hx] at h2
  refine gm_dcd (show Decoder.instr pc b pc = .ok (.iastore, pc + 1) from ?_)
  unfold Decoder.instr
  exact gm_bnd h2 (rfl)
theorem gm_e_lastore {x : UInt8} (h : b.data.toList.drop pc = x :: r) (hx : x.toNat = 80) : decode b pc = .ok (.lastore, 1) := by
  have h1 := gm_rd1 h
  have h2 := h1.1
  rw [hx] at h2
  refine gm_dcd (show Decoder.instr pc b pc = .ok (.lastore, pc + 1) from ?_)
  unfold Decoder.instr
  exact gm_bnd h2 (rfl)
theorem gm_e_aastore {x : UInt8} (h : b.data.toList.drop pc = x :: r) (hx : x.toNat = 83) : decode b pc = .ok (.aastore, 1) := by
  have h1 := gm_rd1 h
  have h2 := h1.1
  rw [hx] at h2
  refine gm_dcd (show Decoder.instr pc b pc = .ok (.aastore, pc + 1) from ?_)
  unfold Decoder.instr
  exact gm_bnd h2 (rfl)
theorem gm_e_bastore {x : UInt8} (h : b.data.toList.drop pc = x :: r) (hx : x.toNat = 84) : decode b pc = .ok (.bastore, 1) := by
  have h1 := gm_rd1 h
  have h2 := h1.1
  rw [hx] at h2
  refine gm_dcd (show Decoder.instr pc b pc = .ok (.bastore, pc + 1) from ?_)
  unfold Decoder.instr
  exact gm_bnd h2 (rfl)
theorem gm_e_pop {x : UInt8} (h : b.data.toList.drop pc = x :: r) (hx : x.toNat = 87) : decode b pc = .ok (.pop, 1) := by
  have h1 := gm_rd1 h
  have h2 := h1.1
  rw [hx] at h2
  refine gm_dcd (show Decoder.instr pc b pc = .ok (.pop, pc + 1) from ?_)
  unfold Decoder.instr
  exact gm_bnd h2 (rfl)
theorem gm_e_dup {x : UInt8} (h : b.data.toList.drop pc = x :: r) (hx : x.toNat = 89) : decode b pc = .ok (.dup, 1) := by
  have h1 := gm_rd1 h
  have h2 := h1.1
  rw [hx] at h2
  refine gm_dcd (show Decoder.instr pc b pc = .ok (.dup, pc + 1) from ?_)
  unfold Decoder.instr
  exact gm_bnd h2 (rfl)
theorem gm_e_dup2 {x : UInt8} (h : b.data.toList.drop pc = x :: r) (hx : x.toNat = 92) : decode b pc = .ok (.dup2, 1) := by
  have h1 := gm_rd1 h
  have h2 := h1.1
  rw [hx] at h2
  refine gm_dcd (show Decoder.instr pc b pc = .ok (.dup2, pc + 1) from ?_)
  unfold Decoder.instr
  exact gm_bnd h2 (rfl)
theorem gm_e_iadd {x : UInt8} (h : b.data.toList.drop pc = x :: r) (hx : x.toNat = 96) : decode b pc = .ok (.iadd, 1) := by
  have h1 := gm_rd1 h
  have h2 := h1.1
  rw [hx] at h2
  refine gm_dcd (show Decoder.instr pc b pc = .ok (.iadd, pc + 1) from ?_)
  unfold Decoder.instr
  exact gm_bnd h2 (rfl)
theorem gm_e_isub {x : UInt8} (h : b.data.toList.drop pc = x :: r) (hx : x.toNat = 100) : decode b pc = .ok (.isub, 1) := by
  have h1 := gm_rd1 h
  have h2 := h1.1
  rw [hx] at h2
  refine gm_dcd (show Decoder.instr pc b pc = .ok (.isub, pc + 1) from ?_)
  unfold Decoder.instr
  exact gm_bnd h2 (rfl)
theorem gm_e_imul {x : UInt8} (h : b.data.toList.drop pc = x :: r) (hx : x.toNat = 104) : decode b pc = .ok (.imul, 1) := by
  have h1 := gm_rd1 h
  have h2 := h1.1
  rw [hx] at h2
  refine gm_dcd (show Decoder.instr pc b pc = .ok (.imul, pc + 1) from ?_)
  unfold Decoder.instr
  exact gm_bnd h2 (rfl)
theorem gm_e_idiv {x : UInt8} (h : b.data.toList.drop pc = x :: r) (hx : x.toNat = 108) : decode b pc = .ok (.idiv, 1) := by
  have h1 := gm_rd1 h
  have h2 := h1.1
  rw [hx] at h2
  refine gm_dcd (show Decoder.instr pc b pc = .ok (.idiv, pc + 1) from ?_)
  unfold Decoder.instr
  exact gm_bnd h2 (rfl)
theorem gm_e_irem {x : UInt8} (h : b.data.toList.drop pc = x :: r) (hx : x.toNat = 112) : decode b pc = .ok (.irem, 1) := by
  have h1 := gm_rd1 h
  have h2 := h1.1
  rw [hx] at h2
  refine gm_dcd (show Decoder.instr pc b pc = .ok (.irem, pc + 1) from ?_)
  unfold Decoder.instr
  exact gm_bnd h2 (rfl)
theorem gm_e_ineg {x : UInt8} (h : b.data.toList.drop pc = x :: r) (hx : x.toNat = 116) : decode b pc = .ok (.ineg, 1) := by
  have h1 := gm_rd1 h
  have h2 := h1.1
  rw [hx] at h2
  refine gm_dcd (show Decoder.instr pc b pc = .ok (.ineg, pc + 1) from ?_)
  unfold Decoder.instr
  exact gm_bnd h2 (rfl)
theorem gm_e_ishl {x : UInt8} (h : b.data.toList.drop pc = x :: r) (hx : x.toNat = 120) : decode b pc = .ok (.ishl, 1) := by
  have h1 := gm_rd1 h
  have h2 := h1.1
  rw [hx] at h2
  refine gm_dcd (show Decoder.instr pc b pc = .ok (.ishl, pc + 1) from ?_)
  unfold Decoder.instr
  exact gm_bnd h2 (rfl)
theorem gm_e_lshl {x : UInt8} (h : b.data.toList.drop pc = x :: r) (hx : x.toNat = 121) : decode b pc = .ok (.lshl, 1) := by
  have h1 := gm_rd1 h
  have h2 := h1.1
  rw [hx] at h2
  refine gm_dcd (show Decoder.instr pc b pc = .ok (.lshl, pc + 1) from ?_)
  unfold Decoder.instr
  exact gm_bnd h2 (rfl)
theorem gm_e_ishr {x : UInt8} (h : b.data.toList.drop pc = x :: r) (hx : x.toNat = 122) : decode b pc = .ok (.ishr, 1) := by
  have h1 := gm_rd1 h
  have h2 := h1.1
  rw [hx] at h2
  refine gm_dcd (show Decoder.instr pc b pc = .ok (.ishr, pc + 1) from ?_)
  unfold Decoder.instr
  exact gm_bnd h2 (rfl)
theorem gm_e_iushr {x : UInt8} (h : b.data.toList.drop pc = x :: r) (hx : x.toNat = 124) : decode b pc = .ok (.iushr, 1) := by
  have h1 := gm_rd1 h
  have h2 := h1.1
  rw [hx] at h2
  refine gm_dcd (show Decoder.instr pc b pc = .ok (.iushr, pc + 1) from ?_)
  unfold Decoder.instr
  exact gm_bnd h2 (rfl)
theorem gm_e_lushr {x : UInt8} (h : b.data.toList.drop pc = x :: r) (hx : x.toNat = 125) : decode b pc = .ok (.lushr, 1) := by
  have h1 := gm_rd1 h
  have h2 := h1.1
  rw [hx] at h2
  refine gm_dcd (show Decoder.instr pc b pc = .ok (.lushr, pc + 1) from ?_)
  unfold Decoder.instr
  exact gm_bnd h2 (rfl)
theorem gm_e_iand {x : UInt8} (h : b.data.toList.drop pc = x :: r) (hx : x.toNat = 126) : decode b pc = .ok (.iand, 1) := by
  have h1 := gm_rd1 h
  have h2 := h1.1
  rw [hx] at h2
  refine gm_dcd (show Decoder.instr pc b pc = .ok (.iand, pc + 1) from ?_)
  unfold Decoder.instr
  exact gm_bnd h2 (rfl)
theorem gm_e_land {x : UInt8} (h : b.data.toList.drop pc = x :: r) (hx : x.toNat = 127) : decode b pc = .ok (.land, 1) := by
  have h1 := gm_rd1 h
  have h2 := h1.1
  rw [hx] at h2
  refine gm_dcd (show Decoder.instr pc b pc = .ok (.land, pc + 1) from ?_)
  unfold Decoder.instr
  exact gm_bnd h2 (rfl)
theorem gm_e_ior {x : UInt8} (h : b.data.toList.drop pc = x :: r) (hx : x.toNat = 128) : decode b pc = .ok (.ior, 1) := by
  have h1 := gm_rd1 h
  have h2 := h1.1
  rw [hx] at h2
  refine gm_dcd (show Decoder.instr pc b pc = .ok (.ior, pc + 1) from ?_)
  unfold Decoder.instr
  exact gm_bnd h2 (rfl)
theorem gm_e_lor {x : UInt8} (h : b.data.toList.drop pc = x :: r) (hx : x.toNat = 129) : decode b pc = .ok (.lor, 1) := by
  have h1 := gm_rd1 h
  have h2 := h1.1
  rw [hx] at h2
  refine gm_dcd (show Decoder.instr pc b pc = .ok (.lor, pc + 1) from ?_)
  unfold Decoder.instr
  exact gm_bnd h2 (rfl)
theorem gm_e_ixor {x : UInt8} (h : b.data.toList.drop pc = x :: r) (hx : x.toNat = 130) : decode b pc = .ok (.ixor, 1) := by
  have h1 := gm_rd1 h
  have h2 := h1.1
  rw [hx] at h2
  refine gm_dcd (show Decoder.instr pc b pc = .ok (.ixor, pc + 1) from ?_)
  unfold Decoder.instr
  exact gm_bnd h2 (rfl)
theorem gm_e_lxor {x : UInt8} (h : b.data.toList.drop pc = x :: r) (hx : x.toNat = 131) : decode b pc = .ok (.lxor, 1) := by
  have h1 := gm_rd1 h
  have h2 := h1.1
  rw [hx] at h2
  refine gm_dcd (show Decoder.instr pc b pc = .ok (.lxor, pc + 1) from ?_)
  unfold Decoder.instr
  exact gm_bnd h2 (rfl)
theorem gm_e_i2l {x : UInt8} (h : b.data.toList.drop pc = x :: r) (hx : x.toNat = 133) : decode b pc = .ok (.i2l, 1) := by
  have h1 := gm_rd1 h
  have h2 := h1.1
  rw [hx] at h2
  refine gm_dcd (show Decoder.instr pc b pc = .ok (.i2l, pc + 1) from ?_)
  unfold Decoder.instr
  exact gm_bnd h2 (rfl)
theorem gm_e_l2i {x : UInt8} (h : b.data.toList.drop pc = x :: r) (hx : x.toNat = 136) : decode b pc = .ok (.l2i, 1) := by
  have h1 := gm_rd1 h
  have h2 := h1.1
  rw [hx] at h2
  refine gm_dcd (show Decoder.instr pc b pc = .ok (.l2i, pc + 1) from ?_)
  unfold Decoder.instr
  exact gm_bnd h2 (rfl)
theorem gm_e_i2b {x : UInt8} (h : b.data.toList.drop pc = x :: r) (hx : x.toNat = 145) : decode b pc = .ok (.i2b, 1) := by
  have h1 := gm_rd1 h
  have h2 := h1.1
  rw [hx] at h2
  refine gm_dcd (show Decoder.instr pc b pc = .ok (.i2b, pc + 1) from ?_)
  unfold Decoder.instr
  exact gm_bnd h2 (rfl)
theorem gm_e_i2c {x : UInt8} (h : b.data.toList.drop pc = x :: r) (hx : x.toNat = 146) : decode b pc = .ok (.i2c, 1) := by
  have h1 := gm_rd1 h
  have h2 := h1.1
  rw [hx] at h2
  refine gm_dcd (show Decoder.instr pc b pc = .ok (.i2c, pc + 1) from ?_)
  unfold Decoder.instr
  exact gm_bnd h2 (rfl)
theorem gm_e_lcmp {x : UInt8} (h : b.data.toList.drop pc = x :: r) (hx : x.toNat = 148) : decode b pc = .ok (.lcmp, 1) := by
  have h1 := gm_rd1 h
  have h2 := h1.1
  rw [hx] at h2
  refine gm_dcd (show Decoder.instr pc b pc = .ok (.lcmp, pc + 1) from ?_)
  unfold Decoder.instr
  exact gm_bnd h2 (rfl)
theorem gm_e_ireturn {x : UInt8} (h : b.data.toList.drop pc = x :: r) (hx : x.toNat = 172) : decode b pc = .ok (.ireturn, 1) := by
  have h1 := gm_rd1 h
  have h2 := h1.1
  rw [hx] at h2
  refine gm_dcd (show Decoder.instr pc b pc = .ok (.ireturn, pc + 1) from ?_)
  unfold Decoder.instr
  exact gm_bnd h2 (rfl)
theorem gm_e_areturn {x : UInt8} (h : b.data.toList.drop pc = x :: r) (hx : x.toNat = 176) : decode b pc = .ok (.areturn, 1) := by
  have h1 := gm_rd1 h
  have h2 := h1.1
  rw [hx] at h2
  refine gm_dcd (show Decoder.instr pc b pc = .ok (.areturn, pc + 1) from ?_)
  unfold Decoder.instr
  exact gm_bnd h2 (rfl)
theorem gm_e_return_ {x : UInt8} (h : b.data.toList.drop pc = x :: r) (hx : x.toNat = 177) : decode b pc = .ok (.return_, 1) := by
  have h1 := gm_rd1 h
  have h2 := h1.1
  rw [hx] at h2
  refine gm_dcd (show Decoder.instr pc b pc = .ok (.return_, pc + 1) from ?_)
  unfold Decoder.instr
  exact gm_bnd h2 (rfl)
theorem gm_e_arraylength {x : UInt8} (h : b.data.toList.drop pc = x :: r) (hx : x.toNat = 190) : decode b pc = .ok (.arraylength, 1) := by
  have h1 := gm_rd1 h
  have h2 := h1.1
  rw [hx] at h2
  refine gm_dcd (show Decoder.instr pc b pc = .ok (.arraylength, pc + 1) from ?_)
  unfold Decoder.instr
  exact gm_bnd h2 (rfl)
theorem gm_e_athrow {x : UInt8} (h : b.data.toList.drop pc = x :: r) (hx : x.toNat = 191) : decode b pc = .ok (.athrow, 1) := by
  have h1 := gm_rd1 h
  have h2 := h1.1
  rw [hx] at h2
  refine gm_dcd (show Decoder.instr pc b pc = .ok (.athrow, pc + 1) from ?_)
  unfold Decoder.instr
  exact gm_bnd h2 (rfl)
theorem gm_e_aconst_null {x : UInt8} (h : b.data.toList.drop pc = x :: r) (hx : x.toNat = 1) : decode b pc = .ok (.aconst_null, 1) := by
  have h1 := gm_rd1 h
  have h2 := h1.1
  rw [hx] at h2
  refine gm_dcd (show Decoder.instr pc b pc = .ok (.aconst_null, pc + 1) from ?_)
  unfold Decoder.instr
  exact gm_bnd h2 (rfl)
theorem gm_e_iload_n0 {x : UInt8} (h : b.data.toList.drop pc = x :: r) (hx : x.toNat = 26) : decode b pc = .ok (.iload_n 0, 1) := by
  have h1 := gm_rd1 h
  have h2 := h1.1
  rw [hx] at h2
  refine gm_dcd (show Decoder.instr pc b pc = .ok (.iload_n 0, pc + 1) from ?_)
  unfold Decoder.instr
  exact gm_bnd h2 (rfl)
theorem gm_e_iload_n1 {x : UInt8} (h : b.data.toList.drop pc = x :: r) (hx : x.toNat = 27) : decode b pc = .ok (.iload_n 1, 1) := by
  have h1 := gm_rd1 h
  have h2 := h1.1
  rw [hx] at h2
  refine gm_dcd (show Decoder.instr pc b pc = .ok (.iload_n 1, pc + 1) from ?_)
  unfold Decoder.instr
  exact gm_bnd h2 (rfl)
theorem gm_e_iload_n2 {x : UInt8} (h : b.data.toList.drop pc = x :: r) (hx : x.toNat = 28) : decode b pc = .ok (.iload_n 2, 1) := by
  have h1 := gm_rd1 h
  have h2 := h1.1
  rw [hx] at h2
  refine gm_dcd (show Decoder.instr pc b pc = .ok (.iload_n 2, pc + 1) from ?_)
  unfold Decoder.instr
  exact gm_bnd h2 (rfl)
theorem gm_e_iload_n3 {x : UInt8} (h : b.data.toList.drop pc = x :: r) (hx : x.toNat = 29) : decode b pc = .ok (.iload_n 3, 1) := by
  have h1 := gm_rd1 h
  have h2 := h1.1
  rw [hx] at h2
  refine gm_dcd (show Decoder.instr pc b pc = .ok (.iload_n 3, pc + 1) from ?_)
  unfold Decoder.instr
  exact gm_bnd h2 (rfl)
theorem gm_e_lload_n0 {x : UInt8} (h : b.data.toList.drop pc = x :: r) (hx : x.toNat = 30) : decode b pc = .ok (.lload_n 0, 1) := by
  have h1 := gm_rd1 h
  have h2 := h1.1
  rw [hx] at h2
  refine gm_dcd (show Decoder.instr pc b pc = .ok (.lload_n 0, pc + 1) from ?_)
  unfold Decoder.instr
  exact gm_bnd h2 (rfl)
theorem gm_e_lload_n1 {x : UInt8} (h : b.data.toList.drop pc = x :: r) (hx : x.toNat = 31) : decode b pc = .ok (.lload_n 1, 1) := by
  have h1 := gm_rd1 h
  have h2 := h1.1
  rw [hx] at h2
  refine gm_dcd (show Decoder.instr pc b pc = .ok (.lload_n 1, pc + 1) from ?_)
  unfold Decoder.instr
  exact gm_bnd h2 (rfl)
theorem gm_e_lload_n2 {x : UInt8} (h : b.data.toList.drop pc = x :: r) (hx : x.toNat = 32) : decode b pc = .ok (.lload_n 2, 1) := by
  have h1 := gm_rd1 h
  have h2 := h1.1
  rw [hx] at h2
  refine gm_dcd (show Decoder.instr pc b pc = .ok (.lload_n 2, pc + 1) from ?_)
  unfold Decoder.instr
  exact gm_bnd h2 (rfl)
theorem gm_e_lload_n3 {x : UInt8} (h : b.data.toList.drop pc = x :: r) (hx : x.toNat = 33) : decode b pc = .ok (.lload_n 3, 1) := by
  have h1 := gm_rd1 h
  have h2 := h1.1
  rw [hx] at h2
  refine gm_dcd (show Decoder.instr pc b pc = .ok (.lload_n 3, pc + 1) from ?_)
  unfold Decoder.instr
  exact gm_bnd h2 (rfl)
theorem gm_e_aload_n0 {x : UInt8} (h : b.data.toList.drop pc = x :: r) (hx : x.toNat = 42) : decode b pc = .ok (.aload_n 0, 1) := by
  have h1 := gm_rd1 h
  have h2 := h1.1
  rw [hx] at h2
  refine gm_dcd (show Decoder.instr pc b pc = .ok (.aload_n 0, pc + 1) from ?_)
  unfold Decoder.instr
  exact gm_bnd h2 (rfl)
theorem gm_e_aload_n1 {x : UInt8} (h : b.data.toList.drop pc = x :: r) (hx : x.toNat = 43) : decode b pc = .ok (.aload_n 1, 1) := by
  have h1 := gm_rd1 h
  have h2 := h1.1
  rw [hx] at h2
  refine gm_dcd (show Decoder.instr pc b pc = .ok (.aload_n 1, pc + 1) from ?_)
  unfold Decoder.instr
  exact gm_bnd h2 (rfl)
theorem gm_e_aload_n2 {x : UInt8} (h : b.data.toList.drop pc = x :: r) (hx : x.toNat = 44) : decode b pc = .ok (.aload_n 2, 1) := by
  have h1 := gm_rd1 h
  have h2 := h1.1
  rw [hx] at h2
  refine gm_dcd (show Decoder.instr pc b pc = .ok (.aload_n 2, pc + 1) from ?_)
  unfold Decoder.instr
  exact gm_bnd h2 (rfl)
theorem gm_e_aload_n3 {x : UInt8} (h : b.data.toList.drop pc = x :: r) (hx : x.toNat = 45) : decode b pc = .ok (.aload_n 3, 1) := by
  have h1 := gm_rd1 h
  have h2 := h1.1
  rw [hx] at h2
  refine gm_dcd (show Decoder.instr pc b pc = .ok (.aload_n 3, pc + 1) from ?_)
  unfold Decoder.instr
  exact gm_bnd h2 (rfl)
theorem gm_e_istore_n0 {x : UInt8} (h : b.data.toList.drop pc = x :: r) (hx : x.toNat = 59) : decode b pc = .ok (.istore_n 0, 1) := by
  have h1 := gm_rd1 h
  have h2 := h1.1
  rw [hx] at h2
  refine gm_dcd (show Decoder.instr pc b pc = .ok (.istore_n 0, pc + 1) from ?_)
  unfold Decoder.instr
  exact gm_bnd h2 (rfl)
theorem gm_e_istore_n1 {x : UInt8} (h : b.data.toList.drop pc = x :: r) (hx : x.toNat = 60) : decode b pc = .ok (.istore_n 1, 1) := by
  have h1 := gm_rd1 h
  have h2 := h1.1
  rw [hx] at h2
  refine gm_dcd (show Decoder.instr pc b pc = .ok (.istore_n 1, pc + 1) from ?_)
  unfold Decoder.instr
  exact gm_bnd h2 (rfl)
theorem gm_e_istore_n2 {x : UInt8} (h : b.data.toList.drop pc = x :: r) (hx : x.toNat = 61) : decode b pc = .ok (.istore_n 2, 1) := by
  have h1 := gm_rd1 h
  have h2 := h1.1
  rw [hx] at h2
  refine gm_dcd (show Decoder.instr pc b pc = .ok (.istore_n 2, pc + 1) from ?_)
  unfold Decoder.instr
  exact gm_bnd h2 (rfl)
theorem gm_e_istore_n3 {x : UInt8} (h : b.data.toList.drop pc = x :: r) (hx : x.toNat = 62) : decode b pc = .ok (.istore_n 3, 1) := by
  have h1 := gm_rd1 h
  have h2 := h1.1
  rw [hx] at h2
  refine gm_dcd (show Decoder.instr pc b pc = .ok (.istore_n 3, pc + 1) from ?_)
  unfold Decoder.instr
  exact gm_bnd h2 (rfl)
theorem gm_e_lstore_n0 {x : UInt8} (h : b.data.toList.drop pc = x :: r) (hx : x.toNat = 63) : decode b pc = .ok (.lstore_n 0, 1) := by
  have h1 := gm_rd1 h
  have h2 := h1.1
  rw [hx] at h2
  refine gm_dcd (show Decoder.instr pc b pc = .ok (.lstore_n 0, pc + 1) from ?_)
  unfold Decoder.instr
  exact gm_bnd h2 (rfl)
theorem gm_e_lstore_n1 {x : UInt8} (h : b.data.toList.drop pc = x :: r) (hx : x.toNat = 64) : decode b pc = .ok (.lstore_n 1, 1) := by
  have h1 := gm_rd1 h
  have h2 := h1.1
  rw [hx] at h2
  refine gm_dcd (show Decoder.instr pc b pc = .ok (.lstore_n 1, pc + 1) from ?_)
  unfold Decoder.instr
  exact gm_bnd h2 (rfl)
theorem gm_e_lstore_n2 {x : UInt8} (h : b.data.toList.drop pc = x :: r) (hx : x.toNat = 65) : decode b pc = .ok (.lstore_n 2, 1) := by
  have h1 := gm_rd1 h
  have h2 := h1.1
  rw [hx] at h2
  refine gm_dcd (show Decoder.instr pc b pc = .ok (.lstore_n 2, pc + 1) from ?_)
  unfold Decoder.instr
  exact gm_bnd h2 (rfl)
theorem gm_e_lstore_n3 {x : UInt8} (h : b.data.toList.drop pc = x :: r) (hx : x.toNat = 66) : decode b pc = .ok (.lstore_n 3, 1) := by
  have h1 := gm_rd1 h
  have h2 := h1.1
  rw [hx] at h2
  refine gm_dcd (show Decoder.instr pc b pc = .ok (.lstore_n 3, pc + 1) from ?_)
  unfold Decoder.instr
  exact gm_bnd h2 (rfl)
theorem gm_e_astore_n0 {x : UInt8} (h : b.data.toList.drop pc = x :: r) (hx : x.toNat = 75) : decode b pc = .ok (.astore_n 0, 1) := by
  have h1 := gm_rd1 h
  have h2 := h1.1
  rw [hx] at h2
  refine gm_dcd (show Decoder.instr pc b pc = .ok (.astore_n 0, pc + 1) from ?_)
  unfold Decoder.instr
  exact gm_bnd h2 (rfl)
theorem gm_e_astore_n1 {x : UInt8} (h : b.data.toList.drop pc = x :: r) (hx : x.toNat = 76) : decode b pc = .ok (.astore_n 1, 1) := by
  have h1 := gm_rd1 h
  have h2 := h1.1
  rw [hx] at h2
  refine gm_dcd (show Decoder.instr pc b pc = .ok (.astore_n 1, pc + 1) from ?_)
  unfold Decoder.instr
  exact gm_bnd h2 (rfl)
theorem gm_e_astore_n2 {x : UInt8} (h : b.data.toList.drop pc = x :: r) (hx : x.toNat = 77) : decode b pc = .ok (.astore_n 2, 1) := by
  have h1 := gm_rd1 h
  have h2 := h1.1
  rw [hx] at h2
  refine gm_dcd (show Decoder.instr pc b pc = .ok (.astore_n 2, pc + 1) from ?_)
  unfold Decoder.instr
  exact gm_bnd h2 (rfl)
theorem gm_e_astore_n3 {x : UInt8} (h : b.data.toList.drop pc = x :: r) (hx : x.toNat = 78) : decode b pc = .ok (.astore_n 3, 1) := by
  have h1 := gm_rd1 h
  have h2 := h1.1
  rw [hx] at h2
  refine gm_dcd (show Decoder.instr pc b pc = .ok (.astore_n 3, pc + 1) from ?_)
  unfold Decoder.instr
  exact gm_bnd h2 (rfl)
theorem gm_e_iconstm1 {x : UInt8} (h : b.data.toList.drop pc = x :: r) (hx : x.toNat = 2) : decode b pc = .ok (.iconst (-1), 1) := by
  have h1 := gm_rd1 h
  have h2 := h1.1
  rw [hx] at h2
  refine gm_dcd (show Decoder.instr pc b pc = .ok (.iconst (-1), pc + 1) from ?_)
  unfold Decoder.instr
  exact gm_bnd h2 (rfl)
theorem gm_e_iconst0 {x : UInt8} (h : b.data.toList.drop pc = x :: r) (hx : x.toNat = 3) : decode b pc = .ok (.iconst (0), 1) := by
  have h1 := gm_rd1 h
  have h2 := h1.1
  rw [hx] at h2
  refine gm_dcd (show Decoder.instr pc b pc = .ok (.iconst (0), pc + 1) from ?_)
  unfold Decoder.instr
  exact gm_bnd h2 (rfl)
theorem gm_e_iconst1 {x : UInt8} (h : b.data.toList.drop pc = x :: r) (hx : x.toNat = 4) : decode b pc = .ok (.iconst (1), 1) := by
  have h1 := gm_rd1 h
  have h2 := h1.1
  rw [hx] at h2
  refine gm_dcd (show Decoder.instr pc b pc = .ok (.iconst (1), pc + 1) from ?_)
  unfold Decoder.instr
  exact gm_bnd h2 (rfl)
theorem gm_e_iconst2 {x : UInt8} (h : b.data.toList.drop pc = x :: r) (hx : x.toNat = 5) : decode b pc = .ok (.iconst (2), 1) := by
  have h1 := gm_rd1 h
  have h2 := h1.1
  rw [hx] at h2
  refine gm_dcd (show Decoder.instr pc b pc = .ok (.iconst (2), pc + 1) from ?_)
  unfold Decoder.instr
  exact gm_bnd h2 (rfl)
theorem gm_e_iconst3 {x : UInt8} (h : b.data.toList.drop pc = x :: r) (hx : x.toNat = 6) : decode b pc = .ok (.iconst (3), 1) := by
  have h1 := gm_rd1 h
  have h2 := h1.1
  rw [hx] at h2
  refine gm_dcd (show Decoder.instr pc b pc = .ok (.iconst (3), pc + 1) from ?_)
  unfold Decoder.instr
  exact gm_bnd h2 (rfl)
theorem gm_e_iconst4 {x : UInt8} (h : b.data.toList.drop pc = x :: r) (hx : x.toNat = 7) : decode b pc = .ok (.iconst (4), 1) := by
  have h1 := gm_rd1 h
  have h2 := h1.1
  rw [hx] at h2
  refine gm_dcd (show Decoder.instr pc b pc = .ok (.iconst (4), pc + 1) from ?_)
  unfold Decoder.instr
  exact gm_bnd h2 (rfl)
theorem gm_e_iconst5 {x : UInt8} (h : b.data.toList.drop pc = x :: r) (hx : x.toNat = 8) : decode b pc = .ok (.iconst (5), 1) := by
  have h1 := gm_rd1 h
  have h2 := h1.1
  rw [hx] at h2
  refine gm_dcd (show Decoder.instr pc b pc = .ok (.iconst (5), pc + 1) from ?_)
  unfold Decoder.instr
  exact gm_bnd h2 (rfl)
theorem gm_e_lconst0 {x : UInt8} (h : b.data.toList.drop pc = x :: r) (hx : x.toNat = 9) : decode b pc = .ok (.lconst 0, 1) := by
  have h1 := gm_rd1 h
  have h2 := h1.1
  rw [hx] at h2
  refine gm_dcd (show Decoder.instr pc b pc = .ok (.lconst 0, pc + 1) from ?_)
  unfold Decoder.instr
  exact gm_bnd h2 (rfl)
theorem gm_e_lconst1 {x : UInt8} (h : b.data.toList.drop pc = x :: r) (hx : x.toNat = 10) : decode b pc = .ok (.lconst 1, 1) := by
  have h1 := gm_rd1 h
  have h2 := h1.1
  rw [hx] at h2
  refine gm_dcd (show Decoder.instr pc b pc = .ok (.lconst 1, pc + 1) from ?_)
  unfold Decoder.instr
  exact gm_bnd h2 (rfl)
theorem gm_e_ldc {x y : UInt8} (h : b.data.toList.drop pc = x :: y :: r) (hx : x.toNat = 18) : decode b pc = .ok (.ldc y.toNat, 2) := by
  have h1 := gm_rd1 h
  have h2 := h1.1
  rw [hx] at h2
  refine gm_dcd (show Decoder.instr pc b pc = .ok (.ldc y.toNat, pc + 2) from ?_)
  unfold Decoder.instr
  exact gm_bnd h2 (show (Reader.u1 >>= fun k => pure (Instr.ldc k) : Decoder Instr) b (pc + 1) = _ from gm_bnd (gm_rd1 h1.2).1 rfl)
theorem gm_e_iload {x y : UInt8} (h : b.data.toList.drop pc = x :: y :: r) (hx : x.toNat = 21) : decode b pc = .ok (.iload y.toNat, 2) := by
  have h1 := gm_rd1 h
  have h2 := h1.1
  rw [hx] at h2
  refine gm_dcd (show Decoder.instr pc b pc = .ok (.iload y.toNat, pc + 2) from ?_)
  unfold Decoder.instr
  exact gm_bnd h2 (show (Reader.u1 >>= fun k => pure (Instr.iload k) : Decoder Instr) b (pc + 1) = _ from gm_bnd (gm_rd1 h1.2).1 rfl)
theorem gm_e_lload {x y : UInt8} (h : b.data.toList.drop pc = x :: y :: r) (hx : x.toNat = 22) : decode b pc = .ok (.lload y.toNat, 2) := by
  have h1 := gm_rd1 h
  have h2 := h1.1
  rw [hx] at h2
  refine gm_dcd (show Decoder.instr pc b pc = .ok (.lload y.toNat, pc + 2) from ?_)
  unfold Decoder.instr
  exact gm_bnd h2 (show (Reader.u1 >>= fun k => pure (Instr.lload k) : Decoder Instr) b (pc + 1) = _ from gm_bnd (gm_rd1 h1.2).1 rfl)
theorem gm_e_aload {x y : UInt8} (h : b.data.toList.drop pc = x :: y :: r) (hx : x.toNat = 25) : decode b pc = .ok (.aload y.toNat, 2) := by
  have h1 := gm_rd1 h
  have h2 := h1.1
  rw [hx] at h2
  refine gm_dcd (show Decoder.instr pc b pc = .ok (.aload y.toNat, pc + 2) from ?_)
  unfold Decoder.instr
  exact gm_bnd h2 (show (Reader.u1 >>= fun k => pure (Instr.aload k) : Decoder Instr) b (pc + 1) = _ from gm_bnd (gm_rd1 h1.2).1 rfl)
theorem gm_e_istore {x y : UInt8} (h : b.data.toList.drop pc = x :: y :: r) (hx : x.toNat = 54) : decode b pc = .ok (.istore y.toNat, 2) := by
  have h1 := gm_rd1 h
  have h2 := h1.1
  rw [hx] at h2
  refine gm_dcd (show Decoder.instr pc b pc = .ok (.istore y.toNat, pc + 2) from ?_)
  unfold Decoder.instr
  exact gm_bnd h2 (show (Reader.u1 >>= fun k => pure (Instr.istore k) : Decoder Instr) b (pc + 1) = _ from gm_bnd (gm_rd1 h1.2).1 rfl)
theorem gm_e_lstore {x y : UInt8} (h : b.data.toList.drop pc = x :: y :: r) (hx : x.toNat = 55) : decode b pc = .ok (.lstore y.toNat, 2) := by
  have h1 := gm_rd1 h
  have h2 := h1.1
  rw [hx] at h2
  refine gm_dcd (show Decoder.instr pc b pc = .ok (.lstore y.toNat, pc + 2) from ?_)
  unfold Decoder.instr
  exact gm_bnd h2 (show (Reader.u1 >>= fun k => pure (Instr.lstore k) : Decoder Instr) b (pc + 1) = _ from gm_bnd (gm_rd1 h1.2).1 rfl)
theorem gm_e_astore {x y : UInt8} (h : b.data.toList.drop pc = x :: y :: r) (hx : x.toNat = 58) : decode b pc = .ok (.astore y.toNat, 2) := by
  have h1 := gm_rd1 h
  have h2 := h1.1
  rw [hx] at h2
  refine gm_dcd (show Decoder.instr pc b pc = .ok (.astore y.toNat, pc + 2) from ?_)
  unfold Decoder.instr
  exact gm_bnd h2 (show (Reader.u1 >>= fun k => pure (Instr.astore k) : Decoder Instr) b (pc + 1) = _ from gm_bnd (gm_rd1 h1.2).1 rfl)
theorem gm_e_bipush {x y : UInt8} (h : b.data.toList.drop pc = x :: y :: r) (hx : x.toNat = 16) : decode b pc = .ok (.bipush (Reader.signed 8 y.toNat), 2) := by
  have h1 := gm_rd1 h
  have h2 := h1.1
  rw [hx] at h2
  refine gm_dcd (show Decoder.instr pc b pc = .ok (.bipush (Reader.signed 8 y.toNat), pc + 2) from ?_)
  unfold Decoder.instr
  exact gm_bnd h2 (show (Reader.s1 >>= fun k => pure (Instr.bipush k) : Decoder Instr) b (pc + 1) = _ from gm_bnd (gm_rds1 h1.2) rfl)
theorem gm_e_sipush {x y z : UInt8} (h : b.data.toList.drop pc = x :: y :: z :: r) (hx : x.toNat = 17) : decode b pc = .ok (.sipush (Reader.signed 16 (y.toNat * 256 + z.toNat)), 3) := by
  have h1 := gm_rd1 h
  have h2 := h1.1
  rw [hx] at h2
  refine gm_dcd (show Decoder.instr pc b pc = .ok (.sipush (Reader.signed 16 (y.toNat * 256 + z.toNat)), pc + 3) from ?_)
  unfold Decoder.instr
  exact gm_bnd h2 (show (Reader.s2 >>= fun k => pure (Instr.sipush k) : Decoder Instr) b (pc + 1) = _ from gm_bnd (gm_rds2 h1.2) rfl)
theorem gm_e_ldc_w {x y z : UInt8} (h : b.data.toList.drop pc = x :: y :: z :: r) (hx : x.toNat = 19) : decode b pc = .ok (.ldc_w (y.toNat * 256 + z.toNat), 3) := by
  have h1 := gm_rd1 h
  have h2 := h1.1
  rw [hx] at h2
  refine gm_dcd (show Decoder.instr pc b pc = .ok (.ldc_w (y.toNat * 256 + z.toNat), pc + 3) from ?_)
  unfold Decoder.instr
  exact gm_bnd h2 (show (Reader.u2 >>= fun k => pure (Instr.ldc_w k) : Decoder Instr) b (pc + 1) = _ from gm_bnd (gm_rd2 h1.2).1 rfl)
theorem gm_e_ldc2_w {x y z : UInt8} (h : b.data.toList.drop pc = x :: y :: z :: r) (hx : x.toNat = 20) : decode b pc = .ok (.ldc2_w (y.toNat * 256 + z.toNat), 3) := by
  have h1 := gm_rd1 h
  have h2 := h1.1
  rw [hx] at h2
  refine gm_dcd (show Decoder.instr pc b pc = .ok (.ldc2_w (y.toNat * 256 + z.toNat), pc + 3) from ?_)
  unfold Decoder.instr
  exact gm_bnd h2 (show (Reader.u2 >>= fun k => pure (Instr.ldc2_w k) : Decoder Instr) b (pc + 1) = _ from gm_bnd (gm_rd2 h1.2).1 rfl)
theorem gm_e_getstatic {x y z : UInt8} (h : b.data.toList.drop pc = x :: y :: z :: r) (hx : x.toNat = 178) : decode b pc = .ok (.getstatic (y.toNat * 256 + z.toNat), 3) := by
  have h1 := gm_rd1 h
  have h2 := h1.1
  rw [hx] at h2
  refine gm_dcd (show Decoder.instr pc b pc = .ok (.getstatic (y.toNat * 256 + z.toNat), pc + 3) from ?_)
  unfold Decoder.instr
  exact gm_bnd h2 (show (Reader.u2 >>= fun k => pure (Instr.getstatic k) : Decoder Instr) b (pc + 1) = _ from gm_bnd (gm_rd2 h1.2).1 rfl)
theorem gm_e_getfield {x y z : UInt8} (h : b.data.toList.drop pc = x :: y :: z :: r) (hx : x.toNat = 180) : decode b pc = .ok (.getfield (y.toNat * 256 + z.toNat), 3) := by
  have h1 := gm_rd1 h
  have h2 := h1.1
  rw [hx] at h2
  refine gm_dcd (show Decoder.instr pc b pc = .ok (.getfield (y.toNat * 256 + z.toNat), pc + 3) from ?_)
  unfold Decoder.instr
  exact gm_bnd h2 (show (Reader.u2 >>= fun k => pure (Instr.getfield k) : Decoder Instr) b (pc + 1) = _ from gm_bnd (gm_rd2 h1.2).1 rfl)
theorem gm_e_putfield {x y z : UInt8} (h : b.data.toList.drop pc = x :: y :: z :: r) (hx : x.toNat = 181) : decode b pc = .ok (.putfield (y.toNat * 256 + z.toNat), 3) := by
  have h1 := gm_rd1 h
  have h2 := h1.1
  rw [hx] at h2
  refine gm_dcd (show Decoder.instr pc b pc = .ok (.putfield (y.toNat * 256 + z.toNat), pc + 3) from ?_)
  unfold Decoder.instr
  exact gm_bnd h2 (show (Reader.u2 >>= fun k => pure (Instr.putfield k) : Decoder Instr) b (pc + 1) = _ from gm_bnd (gm_rd2 h1.2).1 rfl)
theorem gm_e_invokevirtual {x y z : UInt8} (h : b.data.toList.drop pc = x :: y :: z :: r) (hx : x.toNat = 182) : decode b pc = .ok (.invokevirtual (y.toNat * 256 + z.toNat), 3) := by
  have h1 := gm_rd1 h
  have h2 := h1.1
  rw [hx] at h2
  refine gm_dcd (show Decoder.instr pc b pc = .ok (.invokevirtual (y.toNat * 256 + z.toNat), pc + 3) from ?_)
  unfold Decoder.instr
  exact gm_bnd h2 (show (Reader.u2 >>= fun k => pure (Instr.invokevirtual k) : Decoder Instr) b (pc + 1) = _ from gm_bnd (gm_rd2 h1.2).1 rfl)
theorem gm_e_invokespecial {x y z : UInt8} (h : b.data.toList.drop pc = x :: y :: z :: r) (hx : x.toNat = 183) : decode b pc = .ok (.invokespecial (y.toNat * 256 + z.toNat), 3) := by
  have h1 := gm_rd1 h
  have h2 := h1.1
  rw [hx] at h2
  refine gm_dcd (show Decoder.instr pc b pc = .ok (.invokespecial (y.toNat * 256 + z.toNat), pc + 3) from ?_)
  unfold Decoder.instr
  exact gm_bnd h2 (show (Reader.u2 >>= fun k => pure (Instr.invokespecial k) : Decoder Instr) b (pc + 1) = _ from gm_bnd (gm_rd2 h1.2).1 rfl)
theorem gm_e_invokestatic {x y z : UInt8} (h : b.data.toList.drop pc = x :: y :: z :: r) (hx : x.toNat = 184) : decode b pc = .ok (.invokestatic (y.toNat * 256 + z.toNat), 3) := by
  have h1 := gm_rd1 h
  have h2 := h1.1
  rw [hx] at h2
  refine gm_dcd (show Decoder.instr pc b pc = .ok (.invokestatic (y.toNat * 256 + z.toNat), pc + 3) from ?_)
  unfold Decoder.instr
  exact gm_bnd h2 (show (Reader.u2 >>= fun k => pure (Instr.invokestatic k) : Decoder Instr) b (pc + 1) = _ from gm_bnd (gm_rd2 h1.2).1 rfl)
theorem gm_e_new {x y z : UInt8} (h : b.data.toList.drop pc = x :: y :: z :: r) (hx : x.toNat = 187) : decode b pc = .ok (.new (y.toNat * 256 + z.toNat), 3) := by
  have h1 := gm_rd1 h
  have h2 := h1.1
  rw [hx] at h2
  refine gm_dcd (show Decoder.instr pc b pc = .ok (.new (y.toNat * 256 + z.toNat), pc + 3) from ?_)
  unfold Decoder.instr
  exact gm_bnd h2 (show (Reader.u2 >>= fun k => pure (Instr.new k) : Decoder Instr) b (pc + 1) = _ from gm_bnd (gm_rd2 h1.2).1 rfl)
theorem gm_e_anewarray {x y z : UInt8} (h : b.data.toList.drop pc = x :: y :: z :: r) (hx : x.toNat = 189) : decode b pc = .ok (.anewarray (y.toNat * 256 + z.toNat), 3) := by
  have h1 := gm_rd1 h
  have h2 := h1.1
  rw [hx] at h2
  refine gm_dcd (show Decoder.instr pc b pc = .ok (.anewarray (y.toNat * 256 + z.toNat), pc + 3) from ?_)
  unfold Decoder.instr
  exact gm_bnd h2 (show (Reader.u2 >>= fun k => pure (Instr.anewarray k) : Decoder Instr) b (pc + 1) = _ from gm_bnd (gm_rd2 h1.2).1 rfl)
theorem gm_e_checkcast {x y z : UInt8} (h : b.data.toList.drop pc = x :: y :: z :: r) (hx : x.toNat = 192) : decode b pc = .ok (.checkcast (y.toNat * 256 + z.toNat), 3) := by
  have h1 := gm_rd1 h
  have h2 := h1.1
  rw [hx] at h2
  refine gm_dcd (show Decoder.instr pc b pc = .ok (.checkcast (y.toNat * 256 + z.toNat), pc + 3) from ?_)
  unfold Decoder.instr
  exact gm_bnd h2 (show (Reader.u2 >>= fun k => pure (Instr.checkcast k) : Decoder Instr) b (pc + 1) = _ from gm_bnd (gm_rd2 h1.2).1 rfl)
theorem gm_e_goto {x y z : UInt8} (h : b.data.toList.drop pc = x :: y :: z :: r) (hx : x.toNat = 167) : decode b pc = .ok (.goto (Reader.signed 16 (y.toNat * 256 + z.toNat)), 3) := by
  have h1 := gm_rd1 h
  have h2 := h1.1
  rw [hx] at h2
  refine gm_dcd (show Decoder.instr pc b pc = .ok (.goto (Reader.signed 16 (y.toNat * 256 + z.toNat)), pc + 3) from ?_)
  unfold Decoder.instr
  exact gm_bnd h2 (show (Reader.s2 >>= fun k => pure (Instr.goto k) : Decoder Instr) b (pc + 1) = _ from gm_bnd (gm_rds2 h1.2) rfl)
theorem gm_e_ifnull {x y z : UInt8} (h : b.data.toList.drop pc = x :: y :: z :: r) (hx : x.toNat = 198) : decode b pc = .ok (.ifnull (Reader.signed 16 (y.toNat * 256 + z.toNat)), 3) := by
  have h1 := gm_rd1 h
  have h2 := h1.1
  rw [hx] at h2
  refine gm_dcd (show Decoder.instr pc b pc = .ok (.ifnull (Reader.signed 16 (y.toNat * 256 + z.toNat)), pc + 3) from ?_)
  unfold Decoder.instr
  exact gm_bnd h2 (show (Reader.s2 >>= fun k => pure (Instr.ifnull k) : Decoder Instr) b (pc + 1) = _ from gm_bnd (gm_rds2 h1.2) rfl)
theorem gm_e_ifnonnull {x y z : UInt8} (h : b.data.toList.drop pc = x :: y :: z :: r) (hx : x.toNat = 199) : decode b pc = .ok (.ifnonnull (Reader.signed 16 (y.toNat * 256 + z.toNat)), 3) := by
  have h1 := gm_rd1 h
  have h2 := h1.1
  rw [hx] at h2
  refine gm_dcd (show Decoder.instr pc b pc = .ok (.ifnonnull (Reader.signed 16 (y.toNat * 256 + z.toNat)), pc + 3) from ?_)
  unfold Decoder.instr
  exact gm_bnd h2 (show (Reader.s2 >>= fun k => pure (Instr.ifnonnull k) : Decoder Instr) b (pc + 1) = _ from gm_bnd (gm_rds2 h1.2) rfl)
theorem gm_e_ifCond_eq {x y z : UInt8} (h : b.data.toList.drop pc = x :: y :: z :: r) (hx : x.toNat = 153) : decode b pc = .ok (.ifCond .eq (Reader.signed 16 (y.toNat * 256 + z.toNat)), 3) := by
  have h1 := gm_rd1 h
  have h2 := h1.1
  rw [hx] at h2
  refine gm_dcd (show Decoder.instr pc b pc = .ok (.ifCond .eq (Reader.signed 16 (y.toNat * 256 + z.toNat)), pc + 3) from ?_)
  unfold Decoder.instr
  exact gm_bnd h2 (show (Reader.s2 >>= fun k => pure (Instr.ifCond .eq k) : Decoder Instr) b (pc + 1) = _ from gm_bnd (gm_rds2 h1.2) rfl)
theorem gm_e_if_icmp_eq {x y z : UInt8} (h : b.data.toList.drop pc = x :: y :: z :: r) (hx : x.toNat = 159) : decode b pc = .ok (.if_icmp .eq (Reader.signed 16 (y.toNat * 256 + z.toNat)), 3) := by
  have h1 := gm_rd1 h
  have h2 := h1.1
  rw [hx] at h2
  refine gm_dcd (show Decoder.instr pc b pc = .ok (.if_icmp .eq (Reader.signed 16 (y.toNat * 256 + z.toNat)), pc + 3) from ?_)
  unfold Decoder.instr
  exact gm_bnd h2 (show (Reader.s2 >>= fun k => pure (Instr.if_icmp .eq k) : Decoder Instr) b (pc + 1) = _ from gm_bnd (gm_rds2 h1.2) rfl)
theorem gm_e_ifCond_ne {x y z : UInt8} (h : b.data.toList.drop pc = x :: y :: z :: r) (hx : x.toNat = 154) : decode b pc = .ok (.ifCond .ne (Reader.signed 16 (y.toNat * 256 + z.toNat)), 3) := by
  have h1 := gm_rd1 h
  have h2 := h1.1
  rw [hx] at h2
  refine gm_dcd (show Decoder.instr pc b pc = .ok (.ifCond .ne (Reader.signed 16 (y.toNat * 256 + z.toNat)), pc + 3) from ?_)
  unfold Decoder.instr
  exact gm_bnd h2 (show (Reader.s2 >>= fun k => pure (Instr.ifCond .ne k) : Decoder Instr) b (pc + 1) = _ from gm_bnd (gm_rds2 h1.2) rfl)
theorem gm_e_if_icmp_ne {x y z : UInt8} (h : b.data.toList.drop pc = x :: y :: z :: r) (hx : x.toNat = 160) : decode b pc = .ok (.if_icmp .ne (Reader.signed 16 (y.toNat * 256 + z.toNat)), 3) := by
  have h1 := gm_rd1 h
  have h2 := h1.1
  rw [hx] at h2
  refine gm_dcd (show Decoder.instr pc b pc = .ok (.if_icmp .ne (Reader.signed 16 (y.toNat * 256 + z.toNat)), pc + 3) from ?_)
  unfold Decoder.instr
  exact gm_bnd h2 (show (Reader.s2 >>= fun k => pure (Instr.if_icmp .ne k) : Decoder Instr) b (pc + 1) = _ from gm_bnd (gm_rds2 h1.2) rfl)
theorem gm_e_ifCond_lt {x y z : UInt8} (h : b.data.toList.drop pc = x :: y :: z :: r) (hx : x.toNat = 155) : decode b pc = .ok (.ifCond .lt (Reader.signed 16 (y.toNat * 256 + z.toNat)), 3) := by
  have h1 := gm_rd1 h
  have h2 := h1.1
  rw [hx] at h2
  refine gm_dcd (show Decoder.instr pc b pc = .ok (.ifCond .lt (Reader.signed 16 (y.toNat * 256 + z.toNat)), pc + 3) from ?_)
  unfold Decoder.instr
  exact gm_bnd h2 (show (Reader.s2 >>= fun k => pure (Instr.ifCond .lt k) : Decoder Instr) b (pc + 1) = _ from gm_bnd (gm_rds2 h1.2) rfl)
theorem gm_e_if_icmp_lt {x y z : UInt8} (h : b.data.toList.drop pc = x :: y :: z :: r) (hx : x.toNat = 161) : decode b pc = .ok (.if_icmp .lt (Reader.signed 16 (y.toNat * 256 + z.toNat)), 3) := by
  have h1 := gm_rd1 h
  have h2 := h1.1
  rw [hx] at h2
  refine gm_dcd (show Decoder.instr pc b pc = .ok (.if_icmp .lt (Reader.signed 16 (y.toNat * 256 + z.toNat)), pc + 3) from ?_)
  unfold Decoder.instr
  exact gm_bnd h2 (show (Reader.s2 >>= fun k => pure (Instr.if_icmp .lt k) : Decoder Instr) b (pc + 1) = _ from gm_bnd (gm_rds2 h1.2) rfl)
theorem gm_e_ifCond_ge {x y z : UInt8} (h : b.data.toList.drop pc = x :: y :: z :: r) (hx : x.toNat = 156) : decode b pc = .ok (.ifCond .ge (Reader.signed 16 (y.toNat * 256 + z.toNat)), 3) := by
  have h1 := gm_rd1 h
  have h2 := h1.1
  rw [hx] at h2
  refine gm_dcd (show Decoder.instr pc b pc = .ok (.ifCond .ge (Reader.signed 16 (y.toNat * 256 + z.toNat)), pc + 3) from ?_)
  unfold Decoder.instr
  exact gm_bnd h2 (show (Reader.s2 >>= fun k => pure (Instr.ifCond .ge k) : Decoder Instr) b (pc + 1) = _ from gm_bnd (gm_rds2 h1.2) rfl)
theorem gm_e_if_icmp_ge {x y z : UInt8} (h : b.data.toList.drop pc = x :: y :: z :: r) (hx : x.toNat = 162) : decode b pc = .ok (.if_icmp .ge (Reader.signed 16 (y.toNat * 256 + z.toNat)), 3) := by
  have h1 := gm_rd1 h
  have h2 := h1.1
  rw [hx] at h2
  refine gm_dcd (show Decoder.instr pc b pc = .ok (.if_icmp .ge (Reader.signed 16 (y.toNat * 256 + z.toNat)), pc + 3) from ?_)
  unfold Decoder.instr
  exact gm_bnd h2 (show (Reader.s2 >>= fun k => pure (Instr.if_icmp .ge k) : Decoder Instr) b (pc + 1) = _ from gm_bnd (gm_rds2 h1.2) rfl)
theorem gm_e_ifCond_gt {x y z : UInt8} (h : b.data.toList.drop pc = x :: y :: z :: r) (hx : x.toNat = 157) : decode b pc = .ok (.ifCond .gt (Reader.signed 16 (y.toNat * 256 + z.toNat)), 3) := by
  have h1 := gm_rd1 h
  have h2 := h1.1
  rw [hx] at h2
  refine gm_dcd (show Decoder.instr pc b pc = .ok (.ifCond .gt (Reader.signed 16 (y.toNat * 256 + z.toNat)), pc + 3) from ?_)
  unfold Decoder.instr
  exact gm_bnd h2 (show (Reader.s2 >>= fun k => pure (Instr.ifCond .gt k) : Decoder Instr) b (pc + 1) = _ from gm_bnd (gm_rds2 h1.2) rfl)
theorem gm_e_if_icmp_gt {x y z : UInt8} (h : b.data.toList.drop pc = x :: y :: z :: r) (hx : x.toNat = 163) : decode b pc = .ok (.if_icmp .gt (Reader.signed 16 (y.toNat * 256 + z.toNat)), 3) := by
  have h1 := gm_rd1 h
  have h2 := h1.1
  rw [hx] at h2
  refine gm_dcd (show Decoder.instr pc b pc = .ok (.if_icmp .gt (Reader.signed 16 (y.toNat * 256 + z.toNat)), pc + 3) from ?_)
  unfold Decoder.instr
  exact gm_bnd h2 (show (Reader.s2 >>= fun k => pure (Instr.if_icmp .gt k) : Decoder Instr) b (pc + 1) = _ from gm_bnd (gm_rds2 h1.2) rfl)
theorem gm_e_ifCond_le {x y z : UInt8} (h : b.data.toList.drop pc = x :: y :: z :: r) (hx : x.toNat = 158) : decode b pc = .ok (.ifCond .le (Reader.signed 16 (y.toNat * 256 + z.toNat)), 3) := by
  have h1 := gm_rd1 h
  have h2 := h1.1
  rw [hx] at h2
  refine gm_dcd (show Decoder.instr pc b pc = .ok (.ifCond .le (Reader.signed 16 (y.toNat * 256 + z.toNat)), pc + 3) from ?_)
  unfold Decoder.instr
  exact gm_bnd h2 (show (Reader.s2 >>= fun k => pure (Instr.ifCond .le k) : Decoder Instr) b (pc + 1) = _ from gm_bnd (gm_rds2 h1.2) rfl)
theorem gm_e_if_icmp_le {x y z : UInt8} (h : b.data.toList.drop pc = x :: y :: z :: r) (hx : x.toNat = 164) : decode b pc = .ok (.if_icmp .le (Reader.signed 16 (y.toNat * 256 + z.toNat)), 3) := by
  have h1 := gm_rd1 h
  have h2 := h1.1
  rw [hx] at h2
  refine gm_dcd (show Decoder.instr pc b pc = .ok (.if_icmp .le (Reader.signed 16 (y.toNat * 256 + z.toNat)), pc + 3) from ?_)
  unfold Decoder.instr
  exact gm_bnd h2 (show (Reader.s2 >>= fun k => pure (Instr.if_icmp .le k) : Decoder Instr) b (pc + 1) = _ from gm_bnd (gm_rds2 h1.2) rfl)
theorem gm_e_iinc {x y z : UInt8} (h : b.data.toList.drop pc = x :: y :: z :: r) (hx : x.toNat = 132) : decode b pc = .ok (.iinc y.toNat (Reader.signed 8 z.toNat), 3) := by
  have h1 := gm_rd1 h
  have h2 := h1.1
  rw [hx] at h2
  refine gm_dcd (show Decoder.instr pc b pc = .ok (.iinc y.toNat (Reader.signed 8 z.toNat), pc + 3) from ?_)
  unfold Decoder.instr
  exact gm_bnd h2 (show (Reader.u1 >>= fun k => Reader.s1 >>= fun m => pure (Instr.iinc k m) : Decoder Instr) b (pc + 1) = _ from gm_bnd (gm_rd1 h1.2).1 (gm_bnd (gm_rds1 (gm_rd1 h1.2).2) rfl))
theorem gm_e_newarray_boolean {x y : UInt8} (h : b.data.toList.drop pc = x :: y :: r) (hx : x.toNat = 188) (hy : y.toNat = 4) : decode b pc = .ok (.newarray .boolean, 2) := by
  have h1 := gm_rd1 h
  have h2 := h1.1
  rw [hx] at h2
  have h3 := (gm_rd1 h1.2).1
  rw [hy] at h3
  refine gm_dcd (show Decoder.instr pc b pc = .ok (.newarray .boolean, pc + 2) from ?_)
  unfold Decoder.instr
  refine gm_bnd h2 (show Decoder.newarray pc b (pc + 1) = _ from ?_)
  unfold Decoder.newarray
  exact gm_bnd h3 rfl
theorem gm_e_newarray_char {x y : UInt8} (h : b.data.toList.drop pc = x :: y :: r) (hx : x.toNat = 188) (hy : y.toNat = 5) : decode b pc = .ok (.newarray .char, 2) := by
  have h1 := gm_rd1 h
  have h2 := h1.1
  rw [hx] at h2
  have h3 := (gm_rd1 h1.2).1
  rw [hy] at h3
  refine gm_dcd (show Decoder.instr pc b pc = .ok (.newarray .char, pc + 2) from ?_)
  unfold Decoder.instr
  refine gm_bnd h2 (show Decoder.newarray pc b (pc + 1) = _ from ?_)
  unfold Decoder.newarray
  exact gm_bnd h3 rfl
theorem gm_e_newarray_byte {x y : UInt8} (h : b.data.toList.drop pc = x :: y :: r) (hx : x.toNat = 188) (hy : y.toNat = 8) : decode b pc = .ok (.newarray .byte, 2) := by
  have h1 := gm_rd1 h
  have h2 := h1.1
  rw [hx] at h2
  have h3 := (gm_rd1 h1.2).1
  rw [hy] at h3
  refine gm_dcd (show Decoder.instr pc b pc = .ok (.newarray .byte, pc + 2) from ?_)
  unfold Decoder.instr
  refine gm_bnd h2 (show Decoder.newarray pc b (pc + 1) = _ from ?_)
  unfold Decoder.newarray
  exact gm_bnd h3 rfl
theorem gm_e_newarray_int {x y : UInt8} (h : b.data.toList.drop pc = x :: y :: r) (hx : x.toNat = 188) (hy : y.toNat = 10) : decode b pc = .ok (.newarray .int, 2) := by
  have h1 := gm_rd1 h
  have h2 := h1.1
  rw [hx] at h2
  have h3 := (gm_rd1 h1.2).1
  rw [hy] at h3
  refine gm_dcd (show Decoder.instr pc b pc = .ok (.newarray .int, pc + 2) from ?_)
  unfold Decoder.instr
  refine gm_bnd h2 (show Decoder.newarray pc b (pc + 1) = _ from ?_)
  unfold Decoder.newarray
  exact gm_bnd h3 rfl
theorem gm_e_newarray_long {x y : UInt8} (h : b.data.toList.drop pc = x :: y :: r) (hx : x.toNat = 188) (hy : y.toNat = 11) : decode b pc = .ok (.newarray .long, 2) := by
  have h1 := gm_rd1 h
  have h2 := h1.1
  rw [hx] at h2
  have h3 := (gm_rd1 h1.2).1
  rw [hy] at h3
  refine gm_dcd (show Decoder.instr pc b pc = .ok (.newarray .long, pc + 2) from ?_)
  unfold Decoder.instr
  refine gm_bnd h2 (show Decoder.newarray pc b (pc + 1) = _ from ?_)
  unfold Decoder.newarray
  exact gm_bnd h3 rfl
noncomputable def gm_cdn : ClassFile.Cond → Nat
  | .eq => 0
  | .ne => 1
  | .lt => 2
  | .ge => 3
  | .gt => 4
  | .le => 5
noncomputable def gm_atn : ArrayType → Nat
  | .int => 10
  | .byte => 8
  | .long => 11
  | .boolean => 4
  | .char => 5
  | _ => 0
/-- shape, opcode, numbers -/
noncomputable def gm_pat : Instr → Nat × Nat × Int × Int
  | .iaload => (0, 46, 0, 0)
  | .laload => (0, 47, 0, 0)
  | .aaload => (0, 50, 0, 0)
  | .baload => (0, 51, 0, 0)
  | .iastore => (0, 79, 0, 0)
  | .lastore => (0, 80, 0, 0)
  | .aastore => (0, 83, 0, 0)
  | .bastore => (0, 84, 0, 0)
  | .pop => (0, 87, 0, 0)
  | .dup => (0, 89, 0, 0)
  | .dup2 => (0, 92, 0, 0)
  | .iadd => (0, 96, 0, 0)
  | .isub => (0, 100, 0, 0)
  | .imul => (0, 104, 0, 0)
  | .idiv => (0, 108, 0, 0)
  | .irem => (0, 112, 0, 0)
  | .ineg => (0, 116, 0, 0)
  | .ishl => (0, 120, 0, 0)
  | .lshl => (0, 121, 0, 0)
  | .ishr => (0, 122, 0, 0)
  | .iushr => (0, 124, 0, 0)
  | .lushr => (0, 125, 0, 0)
  | .iand => (0, 126, 0, 0)
  | .land => (0, 127, 0, 0)
  | .ior => (0, 128, 0, 0)
  | .lor => (0, 129, 0, 0)
  | .ixor => (0, 130, 0, 0)
  | .lxor => (0, 131, 0, 0)
  | .i2l => (0, 133, 0, 0)
  | .l2i => (0, 136, 0, 0)
  | .i2b => (0, 145, 0, 0)
  | .i2c => (0, 146, 0, 0)
  | .lcmp => (0, 148, 0, 0)
  | .ireturn => (0, 172, 0, 0)
  | .areturn => (0, 176, 0, 0)
  | .return_ => (0, 177, 0, 0)
  | .arraylength => (0, 190, 0, 0)
  | .athrow => (0, 191, 0, 0)
  | .aconst_null => (0, 1, 0, 0)
  | .iload_n q => (0, 26 + q.val, 0, 0)
  | .lload_n q => (0, 30 + q.val, 0, 0)
  | .aload_n q => (0, 42 + q.val, 0, 0)
  | .istore_n q => (0, 59 + q.val, 0, 0)
  | .lstore_n q => (0, 63 + q.val, 0, 0)
  | .astore_n q => (0, 75 + q.val, 0, 0)
  | .iconst z => if -1 ≤ z ∧ z ≤ 5 then (0, (z + 3).toNat, 0, 0) else (9, 0, 0, 0)
  | .lconst q => (0, 9 + q.val, 0, 0)
  | .ldc q => (1, 18, q, 0)
  | .iload q => (1, 21, q, 0)
  | .lload q => (1, 22, q, 0)
  | .aload q => (1, 25, q, 0)
  | .istore q => (1, 54, q, 0)
  | .lstore q => (1, 55, q, 0)
  | .astore q => (1, 58, q, 0)
  | .bipush z => (2, 16, z, 0)
  | .sipush z => (4, 17, z, 0)
  | .ldc_w q => (3, 19, q, 0)
  | .ldc2_w q => (3, 20, q, 0)
  | .getstatic q => (3, 178, q, 0)
  | .getfield q => (3, 180, q, 0)
  | .putfield q => (3, 181, q, 0)
  | .invokevirtual q => (3, 182, q, 0)
  | .invokespecial q => (3, 183, q, 0)
  | .invokestatic q => (3, 184, q, 0)
  | .new q => (3, 187, q, 0)
  | .anewarray q => (3, 189, q, 0)
  | .checkcast q => (3, 192, q, 0)
  | .goto z => (4, 167, z, 0)
  | .ifnull z => (4, 198, z, 0)
  | .ifnonnull z => (4, 199, z, 0)
  | .ifCond c z => (4, 153 + gm_cdn c, z, 0)
  | .if_icmp c z => (4, 159 + gm_cdn c, z, 0)
  | .iinc q z => (5, 132, q, z)
  | .newarray t => if gm_atn t = 0 then (9, 0, 0, 0) else (1, 188, gm_atn t, 0)
  | _ => (9, 0, 0, 0)
theorem gm_fit_ok {pc : Nat} {i : Instr} (hl : b.data.toList.drop pc = l) (h : gm_fit (gm_pat i) l = some (n, r)) : decode b pc = .ok (i, n) ∧ n = gm_len i ∧ b.data.toList.drop (pc + n) = r := by
  subst hl
  have h9 : ∀ {q : Nat × Nat × Int × Int}, q = (9, 0, 0, 0) → gm_fit q (b.data.toList.drop pc) = some (n, r) → False := by
    intro q e hh
    subst e
    cases hh
  cases i with
  | iaload =>
    obtain ⟨x, e, hx, rfl⟩ := gm_g0 h
    exact ⟨gm_e_iaload e hx, rfl, (gm_rd1 e).2⟩
  | laload =>
    obtain ⟨x, e, hx, rfl⟩ := gm_g0 h
    exact ⟨gm_e_laload e hx, rfl, (gm_rd1 e).2⟩
  | aaload =>
    obtain ⟨x, e, hx, rfl⟩ := gm_g0 h
    exact ⟨gm_e_aaload e hx, rfl, (gm_rd1 e).2⟩
  | baload =>
    obtain ⟨x, e, hx, rfl⟩ := gm_g0 h
    exact ⟨gm_e_baload e hx, rfl, (gm_rd1 e).2⟩
  | iastore =>
    obtain ⟨x, e, hx, rfl⟩ := gm_g0 h
    exact ⟨gm_e_iastore e hx, rfl, (gm_rd1 e).2⟩
  | lastore =>
    obtain ⟨x, e, hx, rfl⟩ := gm_g0 h
    exact ⟨gm_e_lastore e hx, rfl, (gm_rd1 e).2⟩
  | aastore =>
    obtain ⟨x, e, hx, rfl⟩ := gm_g0 h
    exact ⟨gm_e_aastore e hx, rfl, (gm_rd1 e).2⟩
  | bastore =>
    obtain ⟨x, e, hx, rfl⟩ := gm_g0 h
    exact ⟨gm_e_bastore e hx, rfl, (gm_rd1 e).2⟩
  | pop =>
    obtain ⟨x, e, hx, rfl⟩ := gm_g0 h
    exact ⟨gm_e_pop e hx, rfl, (gm_rd1 e).2⟩
  | dup =>
    obtain ⟨x, e, hx, rfl⟩ := gm_g0 h
    exact ⟨gm_e_dup e hx, rfl, (gm_rd1 e).2⟩
  | dup2 =>
    obtain ⟨x, e, hx, rfl⟩ := gm_g0 h
    exact ⟨gm_e_dup2 e hx, rfl, (gm_rd1 e).2⟩
  | iadd =>
    obtain ⟨x, e, hx, rfl⟩ := gm_g0 h
    exact ⟨gm_e_iadd e hx, rfl, (gm_rd1 e).2⟩
  | isub =>
    obtain ⟨x, e, hx, rfl⟩ := gm_g0 h
    exact ⟨gm_e_isub e hx, rfl, (gm_rd1 e).2⟩
  | imul =>
    obtain ⟨x, e, hx, rfl⟩ := gm_g0 h
    exact ⟨gm_e_imul e hx, rfl, (gm_rd1 e).2⟩
  | idiv =>
    obtain ⟨x, e, hx, rfl⟩ := gm_g0 h
    exact ⟨gm_e_idiv e hx, rfl, (gm_rd1 e).2⟩
  | irem =>
    obtain ⟨x, e, hx, rfl⟩ := gm_g0 h
    exact ⟨gm_e_irem e hx, rfl, (gm_rd1 e).2⟩
  | ineg =>
    obtain ⟨x, e, hx, rfl⟩ := gm_g0 h
    exact ⟨gm_e_ineg e hx, rfl, (gm_rd1 e).2⟩
  | ishl =>
    obtain ⟨x, e, hx, rfl⟩ := gm_g0 h
    exact ⟨gm_e_ishl e hx, rfl, (gm_rd1 e).2⟩
  | lshl =>
    obtain ⟨x, e, hx, rfl⟩ := gm_g0 h
    exact ⟨gm_e_lshl e hx, rfl, (gm_rd1 e).2⟩
  | ishr =>
    obtain ⟨x, e, hx, rfl⟩ := gm_g0 h
    exact ⟨gm_e_ishr e hx, rfl, (gm_rd1 e).2⟩
  | iushr =>
    obtain ⟨x, e, hx, rfl⟩ := gm_g0 h
    exact ⟨gm_e_iushr e hx, rfl, (gm_rd1 e).2⟩
  | lushr =>
    obtain ⟨x, e, hx, rfl⟩ := gm_g0 h
    exact ⟨gm_e_lushr e hx, rfl, (gm_rd1 e).2⟩
  | iand =>
    obtain ⟨x, e, hx, rfl⟩ := gm_g0 h
    exact ⟨gm_e_iand e hx, rfl, (gm_rd1 e).2⟩
  | land =>
    obtain ⟨x, e, hx, rfl⟩ := gm_g0 h
    exact ⟨gm_e_land e hx, rfl, (gm_rd1 e).2⟩
  | ior =>
    obtain ⟨x, e, hx, rfl⟩ := gm_g0 h
    exact ⟨gm_e_ior e hx, rfl, (gm_rd1 e).2⟩
  | lor =>
    obtain ⟨x, e, hx, rfl⟩ := gm_g0 h
    exact ⟨gm_e_lor e hx, rfl, (gm_rd1 e).2⟩
  | ixor =>
    obtain ⟨x, e, hx, rfl⟩ := gm_g0 h
    exact ⟨gm_e_ixor e hx, rfl, (gm_rd1 e).2⟩
  | lxor =>
    obtain ⟨x, e, hx, rfl⟩ := gm_g0 h
    exact ⟨gm_e_lxor e hx, rfl, (gm_rd1 e).2⟩
  | i2l =>
    obtain ⟨x, e, hx, rfl⟩ := gm_g0 h
    exact ⟨gm_e_i2l e hx, rfl, (gm_rd1 e).2⟩
  | l2i =>
    obtain ⟨x, e, hx, rfl⟩ := gm_g0 h
    exact ⟨gm_e_l2i e hx, rfl, (gm_rd1 e).2⟩
  | i2b =>
    obtain ⟨x, e, hx, rfl⟩ := gm_g0 h
    exact ⟨gm_e_i2b e hx, rfl, (gm_rd1 e).2⟩
  | i2c =>
    obtain ⟨x, e, hx, rfl⟩ := gm_g0 h
    exact ⟨gm_e_i2c e hx, rfl, (gm_rd1 e).2⟩
  | lcmp =>
    obtain ⟨x, e, hx, rfl⟩ := gm_g0 h
    exact ⟨gm_e_lcmp e hx, rfl, (gm_rd1 e).2⟩
  | ireturn =>
    obtain ⟨x, e, hx, rfl⟩ := gm_g0 h
    exact ⟨gm_e_ireturn e hx, rfl, (gm_rd1 e).2⟩
  | areturn =>
    obtain ⟨x, e, hx, rfl⟩ := gm_g0 h
    exact ⟨gm_e_areturn e hx, rfl, (gm_rd1 e).2⟩
  | return_ =>
    obtain ⟨x, e, hx, rfl⟩ := gm_g0 h
    exact ⟨gm_e_return_ e hx, rfl, (gm_rd1 e).2⟩
  | arraylength =>
    obtain ⟨x, e, hx, rfl⟩ := gm_g0 h
    exact ⟨gm_e_arraylength e hx, rfl, (gm_rd1 e).2⟩
  | athrow =>
    obtain ⟨x, e, hx, rfl⟩ := gm_g0 h
    exact ⟨gm_e_athrow e hx, rfl, (gm_rd1 e).2⟩
  | aconst_null =>
    obtain ⟨x, e, hx, rfl⟩ := gm_g0 h
    exact ⟨gm_e_aconst_null e hx, rfl, (gm_rd1 e).2⟩
  | iload_n q =>
    obtain ⟨x, e, hx, rfl⟩ := gm_g0 h
    match q, hx with
    | 0, hx => exact ⟨gm_e_iload_n0 e hx, rfl, (gm_rd1 e).2⟩
    | 1, hx => exact ⟨gm_e_iload_n1 e hx, rfl, (gm_rd1 e).2⟩
    | 2, hx => exact ⟨gm_e_iload_n2 e hx, rfl, (gm_rd1 e).2⟩
    | 3, hx => exact ⟨gm_e_iload_n3 e hx, rfl, (gm_rd1 e).2⟩
  | lload_n q =>
    obtain ⟨x, e, hx, rfl⟩ := gm_g0 h
    match q, hx with
    | 0, hx => exact ⟨gm_e_lload_n0 e hx, rfl, (gm_rd1 e).2⟩
    | 1, hx => exact ⟨gm_e_lload_n1 e hx, rfl, (gm_rd1 e).2⟩
    | 2, hx => exact ⟨gm_e_lload_n2 e hx, rfl, (gm_rd1 e).2⟩
    | 3, hx => exact ⟨gm_e_lload_n3 e hx, rfl, (gm_rd1 e).2⟩
  | aload_n q =>
    obtain ⟨x, e, hx, rfl⟩ := gm_g0 h
    match q, hx with
    | 0, hx => exact ⟨gm_e_aload_n0 e hx, rfl, (gm_rd1 e).2⟩
    | 1, hx => exact ⟨gm_e_aload_n1 e hx, rfl, (gm_rd1 e).2⟩
    | 2, hx => exact ⟨gm_e_aload_n2 e hx, rfl, (gm_rd1 e).2⟩
    | 3, hx => exact ⟨gm_e_aload_n3 e hx, rfl, (gm_rd1 e).2⟩
  | istore_n q =>
    obtain ⟨x, e, hx, rfl⟩ := gm_g0 h
    match q, hx with
    | 0, hx => exact ⟨gm_e_istore_n0 e hx, rfl, (gm_rd1 e).2⟩
    | 1, hx => exact ⟨gm_e_istore_n1 e hx, rfl, (gm_rd1 e).2⟩
    | 2, hx => exact ⟨gm_e_istore_n2 e hx, rfl, (gm_rd1 e).2⟩
    | 3, hx => exact ⟨gm_e_istore_n3 e hx, rfl, (gm_rd1 e).2⟩
  | lstore_n q =>
    obtain ⟨x, e, hx, rfl⟩ := gm_g0 h
    match q, hx with
    | 0, hx => exact ⟨gm_e_lstore_n0 e hx, rfl, (gm_rd1 e).2⟩
    | 1, hx => exact ⟨gm_e_lstore_n1 e hx, rfl, (gm_rd1 e).2⟩
    | 2, hx => exact ⟨gm_e_lstore_n2 e hx, rfl, (gm_rd1 e).2⟩
    | 3, hx => exact ⟨gm_e_lstore_n3 e hx, rfl, (gm_rd1 e).2⟩
  | astore_n q =>
    obtain ⟨x, e, hx, rfl⟩ := gm_g0 h
    match q, hx with
    | 0, hx => exact ⟨gm_e_astore_n0 e hx, rfl, (gm_rd1 e).2⟩
    | 1, hx => exact ⟨gm_e_astore_n1 e hx, rfl, (gm_rd1 e).2⟩
    | 2, hx => exact ⟨gm_e_astore_n2 e hx, rfl, (gm_rd1 e).2⟩
    | 3, hx => exact ⟨gm_e_astore_n3 e hx, rfl, (gm_rd1 e).2⟩
  | iconst z =>
    by_cases hz : -1 ≤ z ∧ z ≤ 5
    · have h : gm_fit (if -1 ≤ z ∧ z ≤ 5 then (0, (z + 3).toNat, 0, 0) else (9, 0, 0, 0)) (b.data.toList.drop pc) = some (n, r) := h
      rw [if_pos hz] at h
      obtain ⟨x, e, hx, rfl⟩ := gm_g0 h
      rcases (by omega : z = -1 ∨ z = 0 ∨ z = 1 ∨ z = 2 ∨ z = 3 ∨ z = 4 ∨ z = 5) with rfl | rfl | rfl | rfl | rfl | rfl | rfl
      · exact ⟨gm_e_iconstm1 e hx, rfl, (gm_rd1 e).2⟩
      · exact ⟨gm_e_iconst0 e hx, rfl, (gm_rd1 e).2⟩
      · exact ⟨gm_e_iconst1 e hx, rfl, (gm_rd1 e).2⟩
      · exact ⟨gm_e_iconst2 e hx, rfl, (gm_rd1 e).2⟩
      · exact ⟨gm_e_iconst3 e hx, rfl, (gm_rd1 e).2⟩
      · exact ⟨gm_e_iconst4 e hx, rfl, (gm_rd1 e).2⟩
      · exact ⟨gm_e_iconst5 e hx, rfl, (gm_rd1 e).2⟩
    · have h : gm_fit (if -1 ≤ z ∧ z ≤ 5 then (0, (z + 3).toNat, 0, 0) else (9, 0, 0, 0)) (b.data.toList.drop pc) = some (n, r) := h
      rw [if_neg hz] at h
      exact (h9 rfl h).elim
  | lconst q =>
    obtain ⟨x, e, hx, rfl⟩ := gm_g0 h
    match q, hx with
    | 0, hx => exact ⟨gm_e_lconst0 e hx, rfl, (gm_rd1 e).2⟩
    | 1, hx => exact ⟨gm_e_lconst1 e hx, rfl, (gm_rd1 e).2⟩
  | ldc q =>
    have h : gm_f1 18 (q : Int) (b.data.toList.drop pc) = some (n, r) := h
    obtain ⟨x, y, e, hx, hy, rfl⟩ := gm_g1 h
    obtain rfl : y.toNat = q := by omega
    exact ⟨gm_e_ldc e hx, rfl, (gm_rd1 (gm_rd1 e).2).2⟩
  | iload q =>
    have h : gm_f1 21 (q : Int) (b.data.toList.drop pc) = some (n, r) := h
    obtain ⟨x, y, e, hx, hy, rfl⟩ := gm_g1 h
    obtain rfl : y.toNat = q := by omega
    exact ⟨gm_e_iload e hx, rfl, (gm_rd1 (gm_rd1 e).2).2⟩
  | lload q =>
    have h : gm_f1 22 (q : Int) (b.data.toList.drop pc) = some (n, r) := h
    obtain ⟨x, y, e, hx, hy, rfl⟩ := gm_g1 h
    obtain rfl : y.toNat = q := by omega
    exact ⟨gm_e_lload e hx, rfl, (gm_rd1 (gm_rd1 e).2).2⟩
  | aload q =>
    have h : gm_f1 25 (q : Int) (b.data.toList.drop pc) = some (n, r) := h
    obtain ⟨x, y, e, hx, hy, rfl⟩ := gm_g1 h
    obtain rfl : y.toNat = q := by omega
    exact ⟨gm_e_aload e hx, rfl, (gm_rd1 (gm_rd1 e).2).2⟩
  | istore q =>
    have h : gm_f1 54 (q : Int) (b.data.toList.drop pc) = some (n, r) := h
    obtain ⟨x, y, e, hx, hy, rfl⟩ := gm_g1 h
    obtain rfl : y.toNat = q := by omega
    exact ⟨gm_e_istore e hx, rfl, (gm_rd1 (gm_rd1 e).2).2⟩
  | lstore q =>
    have h : gm_f1 55 (q : Int) (b.data.toList.drop pc) = some (n, r) := h
    obtain ⟨x, y, e, hx, hy, rfl⟩ := gm_g1 h
    obtain rfl : y.toNat = q := by omega
    exact ⟨gm_e_lstore e hx, rfl, (gm_rd1 (gm_rd1 e).2).2⟩
  | astore q =>
    have h : gm_f1 58 (q : Int) (b.data.toList.drop pc) = some (n, r) := h
    obtain ⟨x, y, e, hx, hy, rfl⟩ := gm_g1 h
    obtain rfl : y.toNat = q := by omega
    exact ⟨gm_e_astore e hx, rfl, (gm_rd1 (gm_rd1 e).2).2⟩
  | bipush z =>
    have h : gm_f2 16 z (b.data.toList.drop pc) = some (n, r) := h
    obtain ⟨x, y, e, hx, rfl, rfl⟩ := gm_g2 h
    exact ⟨gm_e_bipush e hx, rfl, (gm_rd1 (gm_rd1 e).2).2⟩
  | sipush z =>
    have h : gm_f4 17 z (b.data.toList.drop pc) = some (n, r) := h
    obtain ⟨x, y, w, e, hx, rfl, rfl⟩ := gm_g4 h
    exact ⟨gm_e_sipush e hx, rfl, (gm_rd1 (gm_rd1 (gm_rd1 e).2).2).2⟩
  | ldc_w q =>
    have h : gm_f3 19 (q : Int) (b.data.toList.drop pc) = some (n, r) := h
    obtain ⟨x, y, z, e, hx, hy, rfl⟩ := gm_g3 h
    obtain rfl : y.toNat * 256 + z.toNat = q := by omega
    exact ⟨gm_e_ldc_w e hx, rfl, (gm_rd1 (gm_rd1 (gm_rd1 e).2).2).2⟩
  | ldc2_w q =>
    have h : gm_f3 20 (q : Int) (b.data.toList.drop pc) = some (n, r) := h
    obtain ⟨x, y, z, e, hx, hy, rfl⟩ := gm_g3 h
    obtain rfl : y.toNat * 256 + z.toNat = q := by omega
    exact ⟨gm_e_ldc2_w e hx, rfl, (gm_rd1 (gm_rd1 (gm_rd1 e).2).2).2⟩
  | getstatic q =>
    have h : gm_f3 178 (q : Int) (b.data.toList.drop pc) = some (n, r) := h
    obtain ⟨x, y, z, e, hx, hy, rfl⟩ := gm_g3 h
    obtain rfl : y.toNat * 256 + z.toNat = q := by omega
    exact ⟨gm_e_getstatic e hx, rfl, (gm_rd1 (gm_rd1 (gm_rd1 e).2).2).2⟩
  | getfield q =>
    have h : gm_f3 180 (q : Int) (b.data.toList.drop pc) = some (n, r) := h
    obtain ⟨x, y, z, e, hx, hy, rfl⟩ := gm_g3 h
    obtain rfl : y.toNat * 256 + z.toNat = q := by omega
    exact ⟨gm_e_getfield e hx, rfl, (gm_rd1 (gm_rd1 (gm_rd1 e).2).2).2⟩
  | putfield q =>
    have h : gm_f3 181 (q : Int) (b.data.toList.drop pc) = some (n, r) := h
    obtain ⟨x, y, z, e, hx, hy, rfl⟩ := gm_g3 h
    obtain rfl : y.toNat * 256 + z.toNat = q := by omega
    exact ⟨gm_e_putfield e hx, rfl, (gm_rd1 (gm_rd1 (gm_rd1 e).2).2).2⟩
  | invokevirtual q =>
    have h : gm_f3 182 (q : Int) (b.data.toList.drop pc) = some (n, r) := h
    obtain ⟨x, y, z, e, hx, hy, rfl⟩ := gm_g3 h
    obtain rfl : y.toNat * 256 + z.toNat = q := by omega
    exact ⟨gm_e_invokevirtual e hx, rfl, (gm_rd1 (gm_rd1 (gm_rd1 e).2).2).2⟩
  | invokespecial q =>
    have h : gm_f3 183 (q : Int) (b.data.toList.drop pc) = some (n, r) := h
    obtain ⟨x, y, z, e, hx, hy, rfl⟩ := gm_g3 h
    obtain rfl : y.toNat * 256 + z.toNat = q := by omega
    exact ⟨gm_e_invokespecial e hx, rfl, (gm_rd1 (gm_rd1 (gm_rd1 e).2).2).2⟩
  | invokestatic q =>
    have h : gm_f3 184 (q : Int) (b.data.toList.drop pc) = some (n, r) := h
    obtain ⟨x, y, z, e, hx, hy, rfl⟩ := gm_g3 h
    obtain rfl : y.toNat * 256 + z.toNat = q := by omega
    exact ⟨gm_e_invokestatic e hx, rfl, (gm_rd1 (gm_rd1 (gm_rd1 e).2).2).2⟩
  | new q =>
    have h : gm_f3 187 (q : Int) (b.data.toList.drop pc) = some (n, r) := h
    obtain ⟨x, y, z, e, hx, hy, rfl⟩ := gm_g3 h
    obtain rfl : y.toNat * 256 + z.toNat = q := by omega
    exact ⟨gm_e_new e hx, rfl, (gm_rd1 (gm_rd1 (gm_rd1 e).2).2).2⟩
  | anewarray q =>
    have h : gm_f3 189 (q : Int) (b.data.toList.drop pc) = some (n, r) := h
    obtain ⟨x, y, z, e, hx, hy, rfl⟩ := gm_g3 h
    obtain rfl : y.toNat * 256 + z.toNat = q := by omega
    exact ⟨gm_e_anewarray e hx, rfl, (gm_rd1 (gm_rd1 (gm_rd1 e).2).2).2⟩
  | checkcast q =>
    have h : gm_f3 192 (q : Int) (b.data.toList.drop pc) = some (n, r) := h
    obtain ⟨x, y, z, e, hx, hy, rfl⟩ := gm_g3 h
    obtain rfl : y.toNat * 256 + z.toNat = q := by omega
    exact ⟨gm_e_checkcast e hx, rfl, (gm_rd1 (gm_rd1 (gm_rd1 e).2).2).2⟩
  | goto z =>
    have h : gm_f4 167 z (b.data.toList.drop pc) = some (n, r) := h
    obtain ⟨x, y, w, e, hx, rfl, rfl⟩ := gm_g4 h
    exact ⟨gm_e_goto e hx, rfl, (gm_rd1 (gm_rd1 (gm_rd1 e).2).2).2⟩
  | ifnull z =>
    have h : gm_f4 198 z (b.data.toList.drop pc) = some (n, r) := h
    obtain ⟨x, y, w, e, hx, rfl, rfl⟩ := gm_g4 h
    exact ⟨gm_e_ifnull e hx, rfl, (gm_rd1 (gm_rd1 (gm_rd1 e).2).2).2⟩
  | ifnonnull z =>
    have h : gm_f4 199 z (b.data.toList.drop pc) = some (n, r) := h
    obtain ⟨x, y, w, e, hx, rfl, rfl⟩ := gm_g4 h
    exact ⟨gm_e_ifnonnull e hx, rfl, (gm_rd1 (gm_rd1 (gm_rd1 e).2).2).2⟩
  | ifCond c z =>
    have h : gm_f4 (153 + gm_cdn c) z (b.data.toList.drop pc) = some (n, r) := h
    obtain ⟨x, y, w, e, hx, rfl, rfl⟩ := gm_g4 h
    match c, hx with
    | .eq, hx => exact ⟨gm_e_ifCond_eq e hx, rfl, (gm_rd1 (gm_rd1 (gm_rd1 e).2).2).2⟩
    | .ne, hx => exact ⟨gm_e_ifCond_ne e hx, rfl, (gm_rd1 (gm_rd1 (gm_rd1 e).2).2).2⟩
    | .lt, hx => exact ⟨gm_e_ifCond_lt e hx, rfl, (gm_rd1 (gm_rd1 (gm_rd1 e).2).2).2⟩
    | .ge, hx => exact ⟨gm_e_ifCond_ge e hx, rfl, (gm_rd1 (gm_rd1 (gm_rd1 e).2).2).2⟩
    | .gt, hx => exact ⟨gm_e_ifCond_gt e hx, rfl, (gm_rd1 (gm_rd1 (gm_rd1 e).2).2).2⟩
    | .le, hx => exact ⟨gm_e_ifCond_le e hx, rfl, (gm_rd1 (gm_rd1 (gm_rd1 e).2).2).2⟩
  | if_icmp c z =>
    have h : gm_f4 (159 + gm_cdn c) z (b.data.toList.drop pc) = some (n, r) := h
    obtain ⟨x, y, w, e, hx, rfl, rfl⟩ := gm_g4 h
    match c, hx with
    | .eq, hx => exact ⟨gm_e_if_icmp_eq e hx, rfl, (gm_rd1 (gm_rd1 (gm_rd1 e).2).2).2⟩
    | .ne, hx => exact ⟨gm_e_if_icmp_ne e hx, rfl, (gm_rd1 (gm_rd1 (gm_rd1 e).2).2).2⟩
    | .lt, hx => exact ⟨gm_e_if_icmp_lt e hx, rfl, (gm_rd1 (gm_rd1 (gm_rd1 e).2).2).2⟩
    | .ge, hx => exact ⟨gm_e_if_icmp_ge e hx, rfl, (gm_rd1 (gm_rd1 (gm_rd1 e).2).2).2⟩
    | .gt, hx => exact ⟨gm_e_if_icmp_gt e hx, rfl, (gm_rd1 (gm_rd1 (gm_rd1 e).2).2).2⟩
    | .le, hx => exact ⟨gm_e_if_icmp_le e hx, rfl, (gm_rd1 (gm_rd1 (gm_rd1 e).2).2).2⟩
  | iinc q z =>
    have h : gm_f5 132 (q : Int) z (b.data.toList.drop pc) = some (n, r) := h
    obtain ⟨x, y, w, e, hx, hy, rfl, rfl⟩ := gm_g5 h
    obtain rfl : y.toNat = q := by omega
    exact ⟨gm_e_iinc e hx, rfl, (gm_rd1 (gm_rd1 (gm_rd1 e).2).2).2⟩
  | newarray t =>
    cases t with
    | int =>
      have h : gm_f1 188 ((10 : Nat) : Int) (b.data.toList.drop pc) = some (n, r) := h
      obtain ⟨x, y, e, hx, hy, rfl⟩ := gm_g1 h
      exact ⟨gm_e_newarray_int e hx (Int.ofNat.inj hy), rfl, (gm_rd1 (gm_rd1 e).2).2⟩
    | byte =>
      have h : gm_f1 188 ((8 : Nat) : Int) (b.data.toList.drop pc) = some (n, r) := h
      obtain ⟨x, y, e, hx, hy, rfl⟩ := gm_g1 h
      exact ⟨gm_e_newarray_byte e hx (Int.ofNat.inj hy), rfl, (gm_rd1 (gm_rd1 e).2).2⟩
    | long =>
      have h : gm_f1 188 ((11 : Nat) : Int) (b.data.toList.drop pc) = some (n, r) := h
      obtain ⟨x, y, e, hx, hy, rfl⟩ := gm_g1 h
      exact ⟨gm_e_newarray_long e hx (Int.ofNat.inj hy), rfl, (gm_rd1 (gm_rd1 e).2).2⟩
    | boolean =>
      have h : gm_f1 188 ((4 : Nat) : Int) (b.data.toList.drop pc) = some (n, r) := h
      obtain ⟨x, y, e, hx, hy, rfl⟩ := gm_g1 h
      exact ⟨gm_e_newarray_boolean e hx (Int.ofNat.inj hy), rfl, (gm_rd1 (gm_rd1 e).2).2⟩
    | char =>
      have h : gm_f1 188 ((5 : Nat) : Int) (b.data.toList.drop pc) = some (n, r) := h
      obtain ⟨x, y, e, hx, hy, rfl⟩ := gm_g1 h
      exact ⟨gm_e_newarray_char e hx (Int.ofNat.inj hy), rfl, (gm_rd1 (gm_rd1 e).2).2⟩
    | _ => exact (h9 rfl h).elim
  | _ => exact (h9 rfl h).elim
/-! the walk over a method's bytes -/
noncomputable def gm_w1 (b : ByteArray) (q : Nat × Instr) (s : Nat × List UInt8) : Option (Nat × List UInt8) :=
  bif Nat.ble s.1 q.1 then (match gm_fit (gm_pat q.2) (s.2.drop (Nat.sub q.1 s.1)) with
    | some t => some (Nat.add q.1 t.1, t.2)
    | none => bif gm_ck1 b q then some (q.1, s.2.drop (Nat.sub q.1 s.1)) else none) else none
noncomputable def gm_wr (b : ByteArray) : List (Nat × Instr) → Nat × List UInt8 → Option (Nat × List UInt8)
  | [], s => some s
  | q :: t, s => match gm_w1 b q s with
    | some u => gm_wr b t u
    | none => none
noncomputable def gm_wkl (b : ByteArray) : List (List (Nat × Instr)) → Nat × List UInt8 → Bool
  | [], _ => true
  | t :: m, s => match gm_wr b t s with
    | some u => gm_wkl b m u
    | none => false
noncomputable def gm_wk (b : ByteArray) (m : List (List (Nat × Instr))) : Bool := gm_wkl b m (0, b.data.toList)
theorem gm_w1_ok {q : Nat × Instr} {s u : Nat × List UInt8} (hs : b.data.toList.drop s.1 = s.2) (h : gm_w1 b q s = some u) : gm_ck1 b q = true ∧ b.data.toList.drop u.1 = u.2 := by
  unfold gm_w1 at h
  cases e : Nat.ble s.1 q.1 with
  | false => rw [e] at h; cases h
  | true =>
    rw [e] at h
    have hle := Nat.le_of_ble_eq_true e
    have hd : b.data.toList.drop q.1 = s.2.drop (Nat.sub q.1 s.1) := by
      rw [← hs, List.drop_drop]
      congr 1
      show q.1 = s.1 + (q.1 - s.1)
      omega
    have h : (match gm_fit (gm_pat q.2) (s.2.drop (Nat.sub q.1 s.1)) with
      | some t => some (Nat.add q.1 t.1, t.2)
      | none => bif gm_ck1 b q then some (q.1, s.2.drop (Nat.sub q.1 s.1)) else none) = some u := h
    cases e2 : gm_fit (gm_pat q.2) (s.2.drop (Nat.sub q.1 s.1)) with
    | some t =>
      rw [e2] at h
      have h := Option.some.inj h
      subst h
      obtain ⟨k1, k2, k3⟩ := gm_fit_ok (r := t.2) (n := t.1) hd e2
      refine ⟨?_, k3⟩
      unfold gm_ck1
      rw [k1]
      show (decide (q.2 = q.2) && (gm_sw q.2 || decide (t.1 = gm_len q.2))) = true
      rw [k2]
      simp
    | none =>
      rw [e2] at h
      cases e3 : gm_ck1 b q with
      | false => rw [e3] at h; cases h
      | true =>
        rw [e3] at h
        have h := Option.some.inj h
        subst h
        exact ⟨rfl, hd⟩
theorem gm_wr_ok : ∀ {t : List (Nat × Instr)} {s u : Nat × List UInt8}, b.data.toList.drop s.1 = s.2 → gm_wr b t s = some u → t.all (gm_ck1 b) = true ∧ b.data.toList.drop u.1 = u.2
  | [], s, u, hs, h => by cases h; exact ⟨rfl, hs⟩
  | q :: t, s, u, hs, h => by
    unfold gm_wr at h
    cases e : gm_w1 b q s with
    | none => rw [e] at h; cases h
    | some v =>
      rw [e] at h
      have h1 := gm_w1_ok hs e
      have h2 := gm_wr_ok h1.2 h
      exact ⟨by rw [List.all_cons, h1.1, h2.1]; rfl, h2.2⟩
theorem gm_wkl_ok : ∀ {m : List (List (Nat × Instr))} {s : Nat × List UInt8}, b.data.toList.drop s.1 = s.2 → gm_wkl b m s = true → gm_ckm b m = true
  | [], _, _, _ => rfl
  | t :: m, s, hs, h => by
    unfold gm_wkl at h
    cases e : gm_wr b t s with
    | none => rw [e] at h; cases h
    | some v =>
      rw [e] at h
      have h1 := gm_wr_ok hs e
      have h2 := gm_wkl_ok h1.2 h
      show (t.all (gm_ck1 b) && gm_ckm b m) = true
      rw [h1.1, h2]
      rfl
theorem gm_wk_ok {m : List (List (Nat × Instr))} (h : gm_wk b m = true) : gm_ckm b m = true := gm_wkl_ok (s := (0, b.data.toList)) rfl h
end DEC
end
/-! 01a1.mn -/
section
/-! INSTRUCTION TABLES, laid by wip/am/gen_tables.py, and the check that they are what the code decodes to. -/
noncomputable def gm_m0 : List (List (Nat × Instr)) := [[((0 : Nat), .new 8), ((3 : Nat), .dup), ((4 : Nat), .invokespecial 135), ((7 : Nat), .astore_n 1), ((8 : Nat), .new 136), ((11 : Nat), .dup), ((12 : Nat), .invokespecial 138), ((15 : Nat), .astore_n 2), ((16 : Nat), .iconst 1), ((17 : Nat), .newarray .long), ((19 : Nat), .astore_n 3), ((20 : Nat), .iconst 0), ((21 : Nat), .istore 4), ((23 : Nat), .iload 4), ((25 : Nat), .aload_n 0), ((26 : Nat), .arraylength), ((27 : Nat), .bipush 6), ((29 : Nat), .isub), ((30 : Nat), .if_icmp .gt 1969)], [((33 : Nat), .aload_n 0), ((34 : Nat), .iload 4), ((36 : Nat), .iaload), ((37 : Nat), .bipush 63), ((39 : Nat), .iand), ((40 : Nat), .tableswitch 1953 0 46 #[204, 277, 302, 318, 334, 347, 375, 415, 467, 507, 547, 587, 655, 695, 735, 763, 791, 855, 895, 935, 975, 1003, 1016, 1057, 1085, 1137, 1201, 1241, 1293, 1306, 1322, 1390, 1442, 1482, 1538, 1594, 1634, 1662, 1687, 1743, 1783, 1823, 1851, 1891, 1904, 1915, 1928])]]
noncomputable def gm_m1 : List (List (Nat × Instr)) := [[], []]
noncomputable def gm_m2 : List (List (Nat × Instr)) := [[], []]
noncomputable def gm_m3 : List (List (Nat × Instr)) := [[], [((244 : Nat), .aload_n 1), ((245 : Nat), .aload_n 0), ((246 : Nat), .iload 4), ((248 : Nat), .iconst 1), ((249 : Nat), .iadd), ((250 : Nat), .iaload), ((251 : Nat), .aload_n 0), ((252 : Nat), .iload 4), ((254 : Nat), .iconst 2), ((255 : Nat), .iadd)]]
noncomputable def gm_m4 : List (List (Nat × Instr)) := [[((256 : Nat), .iaload), ((257 : Nat), .aload_n 0), ((258 : Nat), .iload 4), ((260 : Nat), .iconst 3), ((261 : Nat), .iadd), ((262 : Nat), .iaload), ((263 : Nat), .aload_n 0), ((264 : Nat), .iload 4), ((266 : Nat), .iconst 4), ((267 : Nat), .iadd), ((268 : Nat), .iaload), ((269 : Nat), .aload_n 0), ((270 : Nat), .iload 4), ((272 : Nat), .iconst 5), ((273 : Nat), .iadd), ((274 : Nat), .iaload), ((275 : Nat), .invokevirtual 139), ((278 : Nat), .pop), ((279 : Nat), .aload_n 2), ((280 : Nat), .aload_n 0), ((281 : Nat), .iload 4), ((283 : Nat), .iconst 1), ((284 : Nat), .iadd), ((285 : Nat), .iaload), ((286 : Nat), .aload_n 0), ((287 : Nat), .iload 4)], [((289 : Nat), .iconst 2), ((290 : Nat), .iadd), ((291 : Nat), .iaload), ((292 : Nat), .aload_n 0), ((293 : Nat), .iload 4), ((295 : Nat), .iconst 3), ((296 : Nat), .iadd), ((297 : Nat), .iaload), ((298 : Nat), .aload_n 0), ((299 : Nat), .iload 4), ((301 : Nat), .iconst 4), ((302 : Nat), .iadd), ((303 : Nat), .iaload), ((304 : Nat), .aload_n 0), ((305 : Nat), .iload 4), ((307 : Nat), .iconst 5), ((308 : Nat), .iadd), ((309 : Nat), .iaload), ((310 : Nat), .invokevirtual 143), ((313 : Nat), .pop), ((314 : Nat), .goto 1679), ((317 : Nat), .aload_n 1), ((318 : Nat), .aload_n 0), ((319 : Nat), .iload 4)]]
noncomputable def gm_m5 : List (List (Nat × Instr)) := [[((321 : Nat), .iconst 1), ((322 : Nat), .iadd), ((323 : Nat), .iaload), ((324 : Nat), .invokevirtual 144), ((327 : Nat), .pop), ((328 : Nat), .aload_n 2), ((329 : Nat), .aload_n 0), ((330 : Nat), .iload 4), ((332 : Nat), .iconst 1), ((333 : Nat), .iadd), ((334 : Nat), .iaload), ((335 : Nat), .invokevirtual 148), ((338 : Nat), .pop), ((339 : Nat), .goto 1654), ((342 : Nat), .aload_n 1), ((343 : Nat), .aload_n 3), ((344 : Nat), .invokestatic 149), ((347 : Nat), .istore 5), ((349 : Nat), .aload_n 2), ((350 : Nat), .invokevirtual 154)], [((353 : Nat), .istore 6), ((355 : Nat), .goto 1638), ((358 : Nat), .aload_n 1), ((359 : Nat), .aload_n 3), ((360 : Nat), .invokestatic 155), ((363 : Nat), .istore 5), ((365 : Nat), .aload_n 2), ((366 : Nat), .invokevirtual 157), ((369 : Nat), .istore 6), ((371 : Nat), .goto 1622), ((374 : Nat), .aload_n 1), ((375 : Nat), .invokevirtual 158), ((378 : Nat), .pop), ((379 : Nat), .aload_n 2), ((380 : Nat), .invokevirtual 161), ((383 : Nat), .pop)]]
noncomputable def gm_m6 : List (List (Nat × Instr)) := [[((384 : Nat), .goto 1609), ((387 : Nat), .aload_n 1), ((388 : Nat), .aload_n 0), ((389 : Nat), .iload 4), ((391 : Nat), .iconst 1), ((392 : Nat), .iadd), ((393 : Nat), .iaload), ((394 : Nat), .aload_n 3), ((395 : Nat), .invokestatic 162), ((398 : Nat), .istore 5), ((400 : Nat), .aload_n 2), ((401 : Nat), .aload_n 0), ((402 : Nat), .iload 4), ((404 : Nat), .iconst 1), ((405 : Nat), .iadd), ((406 : Nat), .iaload), ((407 : Nat), .invokevirtual 165), ((410 : Nat), .istore 6), ((412 : Nat), .goto 1581), ((415 : Nat), .aload_n 1)], [((416 : Nat), .aload_n 0), ((417 : Nat), .iload 4), ((419 : Nat), .iconst 1), ((420 : Nat), .iadd), ((421 : Nat), .iaload), ((422 : Nat), .aload_n 0), ((423 : Nat), .iload 4), ((425 : Nat), .iconst 2), ((426 : Nat), .iadd), ((427 : Nat), .iaload), ((428 : Nat), .aload_n 3), ((429 : Nat), .invokestatic 166), ((432 : Nat), .istore 5), ((434 : Nat), .aload_n 2), ((435 : Nat), .aload_n 0), ((436 : Nat), .iload 4), ((438 : Nat), .iconst 1), ((439 : Nat), .iadd), ((440 : Nat), .iaload), ((441 : Nat), .aload_n 0), ((442 : Nat), .iload 4), ((444 : Nat), .iconst 2), ((445 : Nat), .iadd), ((446 : Nat), .iaload), ((447 : Nat), .invokevirtual 169)]]
noncomputable def gm_m7 : List (List (Nat × Instr)) := [[((450 : Nat), .istore 6), ((452 : Nat), .goto 1541), ((455 : Nat), .aload_n 1), ((456 : Nat), .aload_n 0), ((457 : Nat), .iload 4), ((459 : Nat), .iconst 1), ((460 : Nat), .iadd), ((461 : Nat), .iaload), ((462 : Nat), .aload_n 0), ((463 : Nat), .iload 4), ((465 : Nat), .iconst 2), ((466 : Nat), .iadd), ((467 : Nat), .iaload), ((468 : Nat), .aload_n 0), ((469 : Nat), .iload 4), ((471 : Nat), .iconst 3), ((472 : Nat), .iadd), ((473 : Nat), .iaload), ((474 : Nat), .aload_n 3), ((475 : Nat), .invokestatic 170), ((478 : Nat), .istore 5)], [((480 : Nat), .aload_n 2), ((481 : Nat), .aload_n 0), ((482 : Nat), .iload 4), ((484 : Nat), .iconst 1), ((485 : Nat), .iadd), ((486 : Nat), .iaload), ((487 : Nat), .aload_n 0), ((488 : Nat), .iload 4), ((490 : Nat), .iconst 2), ((491 : Nat), .iadd), ((492 : Nat), .iaload), ((493 : Nat), .aload_n 0), ((494 : Nat), .iload 4), ((496 : Nat), .iconst 3), ((497 : Nat), .iadd), ((498 : Nat), .iaload), ((499 : Nat), .invokevirtual 173), ((502 : Nat), .istore 6), ((504 : Nat), .goto 1489), ((507 : Nat), .aload_n 1), ((508 : Nat), .aload_n 0), ((509 : Nat), .iload 4), ((511 : Nat), .iconst 1)]]
noncomputable def gm_m8 : List (List (Nat × Instr)) := [[((512 : Nat), .iadd), ((513 : Nat), .iaload), ((514 : Nat), .aload_n 0), ((515 : Nat), .iload 4), ((517 : Nat), .iconst 2), ((518 : Nat), .iadd), ((519 : Nat), .iaload), ((520 : Nat), .aload_n 3), ((521 : Nat), .invokestatic 174), ((524 : Nat), .istore 5), ((526 : Nat), .aload_n 2), ((527 : Nat), .aload_n 0), ((528 : Nat), .iload 4), ((530 : Nat), .iconst 1), ((531 : Nat), .iadd), ((532 : Nat), .iaload), ((533 : Nat), .aload_n 0), ((534 : Nat), .iload 4), ((536 : Nat), .iconst 2), ((537 : Nat), .iadd), ((538 : Nat), .iaload), ((539 : Nat), .invokevirtual 176), ((542 : Nat), .istore 6)], [((544 : Nat), .goto 1449), ((547 : Nat), .aload_n 1), ((548 : Nat), .aload_n 0), ((549 : Nat), .iload 4), ((551 : Nat), .iconst 1), ((552 : Nat), .iadd), ((553 : Nat), .iaload), ((554 : Nat), .aload_n 0), ((555 : Nat), .iload 4), ((557 : Nat), .iconst 2), ((558 : Nat), .iadd), ((559 : Nat), .iaload), ((560 : Nat), .aload_n 3), ((561 : Nat), .invokestatic 177), ((564 : Nat), .istore 5), ((566 : Nat), .aload_n 2), ((567 : Nat), .aload_n 0), ((568 : Nat), .iload 4), ((570 : Nat), .iconst 1), ((571 : Nat), .iadd), ((572 : Nat), .iaload), ((573 : Nat), .aload_n 0), ((574 : Nat), .iload 4)]]
noncomputable def gm_m9 : List (List (Nat × Instr)) := [[((576 : Nat), .iconst 2), ((577 : Nat), .iadd), ((578 : Nat), .iaload), ((579 : Nat), .invokevirtual 179), ((582 : Nat), .istore 6), ((584 : Nat), .goto 1409), ((587 : Nat), .aload_n 1), ((588 : Nat), .aload_n 0), ((589 : Nat), .iload 4), ((591 : Nat), .iconst 1), ((592 : Nat), .iadd), ((593 : Nat), .iaload), ((594 : Nat), .aload_n 0), ((595 : Nat), .iload 4), ((597 : Nat), .iconst 2), ((598 : Nat), .iadd), ((599 : Nat), .iaload), ((600 : Nat), .aload_n 3), ((601 : Nat), .invokestatic 180), ((604 : Nat), .istore 5), ((606 : Nat), .aload_n 2), ((607 : Nat), .aload_n 0)], [((608 : Nat), .iload 4), ((610 : Nat), .iconst 1), ((611 : Nat), .iadd), ((612 : Nat), .iaload), ((613 : Nat), .aload_n 0), ((614 : Nat), .iload 4), ((616 : Nat), .iconst 2), ((617 : Nat), .iadd), ((618 : Nat), .iaload), ((619 : Nat), .invokevirtual 182), ((622 : Nat), .istore 6), ((624 : Nat), .goto 1369), ((627 : Nat), .aload_n 1), ((628 : Nat), .aload_n 0), ((629 : Nat), .iload 4), ((631 : Nat), .iconst 1), ((632 : Nat), .iadd), ((633 : Nat), .iaload), ((634 : Nat), .aload_n 0), ((635 : Nat), .iload 4), ((637 : Nat), .iconst 2), ((638 : Nat), .iadd), ((639 : Nat), .iaload)]]
noncomputable def gm_m10 : List (List (Nat × Instr)) := [[((640 : Nat), .aload_n 3), ((641 : Nat), .invokestatic 183), ((644 : Nat), .istore 5), ((646 : Nat), .aload_n 2), ((647 : Nat), .aload_n 0), ((648 : Nat), .iload 4), ((650 : Nat), .iconst 1), ((651 : Nat), .iadd), ((652 : Nat), .iaload), ((653 : Nat), .aload_n 0), ((654 : Nat), .iload 4), ((656 : Nat), .iconst 2), ((657 : Nat), .iadd), ((658 : Nat), .iaload), ((659 : Nat), .invokevirtual 185), ((662 : Nat), .istore 6), ((664 : Nat), .aload_n 2), ((665 : Nat), .invokevirtual 186), ((668 : Nat), .iload 5), ((670 : Nat), .if_icmp .eq 5)], [((673 : Nat), .iconst 0), ((674 : Nat), .ireturn), ((675 : Nat), .iload 5), ((677 : Nat), .ifCond .ne 15), ((680 : Nat), .aload_n 3), ((681 : Nat), .iconst 0), ((682 : Nat), .laload), ((683 : Nat), .iload 6), ((685 : Nat), .i2l), ((686 : Nat), .lcmp), ((687 : Nat), .ifCond .eq 5), ((690 : Nat), .iconst 0), ((691 : Nat), .ireturn), ((692 : Nat), .goto 1301), ((695 : Nat), .aload_n 1), ((696 : Nat), .aload_n 0), ((697 : Nat), .iload 4), ((699 : Nat), .iconst 1), ((700 : Nat), .iadd), ((701 : Nat), .iaload), ((702 : Nat), .aload_n 0), ((703 : Nat), .iload 4)]]
noncomputable def gm_m11 : List (List (Nat × Instr)) := [[((705 : Nat), .iconst 2), ((706 : Nat), .iadd), ((707 : Nat), .iaload), ((708 : Nat), .aload_n 3), ((709 : Nat), .invokestatic 189), ((712 : Nat), .istore 5), ((714 : Nat), .aload_n 2), ((715 : Nat), .aload_n 0), ((716 : Nat), .iload 4), ((718 : Nat), .iconst 1), ((719 : Nat), .iadd), ((720 : Nat), .iaload), ((721 : Nat), .aload_n 0), ((722 : Nat), .iload 4), ((724 : Nat), .iconst 2), ((725 : Nat), .iadd), ((726 : Nat), .iaload), ((727 : Nat), .invokevirtual 191), ((730 : Nat), .istore 6), ((732 : Nat), .goto 1261), ((735 : Nat), .aload_n 1)], [((736 : Nat), .aload_n 0), ((737 : Nat), .iload 4), ((739 : Nat), .iconst 1), ((740 : Nat), .iadd), ((741 : Nat), .iaload), ((742 : Nat), .aload_n 0), ((743 : Nat), .iload 4), ((745 : Nat), .iconst 2), ((746 : Nat), .iadd), ((747 : Nat), .iaload), ((748 : Nat), .aload_n 3), ((749 : Nat), .invokestatic 192), ((752 : Nat), .istore 5), ((754 : Nat), .aload_n 2), ((755 : Nat), .aload_n 0), ((756 : Nat), .iload 4), ((758 : Nat), .iconst 1), ((759 : Nat), .iadd), ((760 : Nat), .iaload), ((761 : Nat), .aload_n 0), ((762 : Nat), .iload 4), ((764 : Nat), .iconst 2), ((765 : Nat), .iadd), ((766 : Nat), .iaload), ((767 : Nat), .invokevirtual 194)]]
noncomputable def gm_m12 : List (List (Nat × Instr)) := [[((770 : Nat), .istore 6), ((772 : Nat), .goto 1221), ((775 : Nat), .aload_n 1), ((776 : Nat), .aload_n 0), ((777 : Nat), .iload 4), ((779 : Nat), .iconst 1), ((780 : Nat), .iadd), ((781 : Nat), .iaload), ((782 : Nat), .aload_n 3), ((783 : Nat), .invokestatic 195), ((786 : Nat), .istore 5), ((788 : Nat), .aload_n 2), ((789 : Nat), .aload_n 0), ((790 : Nat), .iload 4), ((792 : Nat), .iconst 1), ((793 : Nat), .iadd), ((794 : Nat), .iaload), ((795 : Nat), .invokevirtual 197), ((798 : Nat), .istore 6)], [((800 : Nat), .goto 1193), ((803 : Nat), .aload_n 1), ((804 : Nat), .aload_n 0), ((805 : Nat), .iload 4), ((807 : Nat), .iconst 1), ((808 : Nat), .iadd), ((809 : Nat), .iaload), ((810 : Nat), .aload_n 3), ((811 : Nat), .invokestatic 198), ((814 : Nat), .istore 5), ((816 : Nat), .aload_n 2), ((817 : Nat), .aload_n 0), ((818 : Nat), .iload 4), ((820 : Nat), .iconst 1), ((821 : Nat), .iadd), ((822 : Nat), .iaload), ((823 : Nat), .invokevirtual 200), ((826 : Nat), .istore 6), ((828 : Nat), .goto 1165), ((831 : Nat), .aload_n 1)]]
noncomputable def gm_m13 : List (List (Nat × Instr)) := [[((832 : Nat), .aload_n 0), ((833 : Nat), .iload 4), ((835 : Nat), .iconst 1), ((836 : Nat), .iadd), ((837 : Nat), .iaload), ((838 : Nat), .aload_n 0), ((839 : Nat), .iload 4), ((841 : Nat), .iconst 2), ((842 : Nat), .iadd), ((843 : Nat), .iaload), ((844 : Nat), .aload_n 0), ((845 : Nat), .iload 4), ((847 : Nat), .iconst 3), ((848 : Nat), .iadd), ((849 : Nat), .iaload), ((850 : Nat), .aload_n 0), ((851 : Nat), .iload 4), ((853 : Nat), .iconst 4), ((854 : Nat), .iadd), ((855 : Nat), .iaload), ((856 : Nat), .aload_n 3), ((857 : Nat), .invokestatic 201), ((860 : Nat), .istore 5), ((862 : Nat), .aload_n 2), ((863 : Nat), .aload_n 0)], [((864 : Nat), .iload 4), ((866 : Nat), .iconst 1), ((867 : Nat), .iadd), ((868 : Nat), .iaload), ((869 : Nat), .aload_n 0), ((870 : Nat), .iload 4), ((872 : Nat), .iconst 2), ((873 : Nat), .iadd), ((874 : Nat), .iaload), ((875 : Nat), .aload_n 0), ((876 : Nat), .iload 4), ((878 : Nat), .iconst 3), ((879 : Nat), .iadd), ((880 : Nat), .iaload), ((881 : Nat), .aload_n 0), ((882 : Nat), .iload 4), ((884 : Nat), .iconst 4), ((885 : Nat), .iadd), ((886 : Nat), .iaload), ((887 : Nat), .invokevirtual 204), ((890 : Nat), .istore 6), ((892 : Nat), .goto 1101), ((895 : Nat), .aload_n 1)]]
noncomputable def gm_m14 : List (List (Nat × Instr)) := [[((896 : Nat), .aload_n 0), ((897 : Nat), .iload 4), ((899 : Nat), .iconst 1), ((900 : Nat), .iadd), ((901 : Nat), .iaload), ((902 : Nat), .aload_n 0), ((903 : Nat), .iload 4), ((905 : Nat), .iconst 2), ((906 : Nat), .iadd), ((907 : Nat), .iaload), ((908 : Nat), .aload_n 3), ((909 : Nat), .invokestatic 205), ((912 : Nat), .istore 5), ((914 : Nat), .aload_n 2), ((915 : Nat), .aload_n 0), ((916 : Nat), .iload 4), ((918 : Nat), .iconst 1), ((919 : Nat), .iadd), ((920 : Nat), .iaload), ((921 : Nat), .aload_n 0), ((922 : Nat), .iload 4), ((924 : Nat), .iconst 2), ((925 : Nat), .iadd), ((926 : Nat), .iaload), ((927 : Nat), .invokevirtual 207)], [((930 : Nat), .istore 6), ((932 : Nat), .goto 1061), ((935 : Nat), .aload_n 1), ((936 : Nat), .aload_n 0), ((937 : Nat), .iload 4), ((939 : Nat), .iconst 1), ((940 : Nat), .iadd), ((941 : Nat), .iaload), ((942 : Nat), .aload_n 0), ((943 : Nat), .iload 4), ((945 : Nat), .iconst 2), ((946 : Nat), .iadd), ((947 : Nat), .iaload), ((948 : Nat), .aload_n 3), ((949 : Nat), .invokestatic 208), ((952 : Nat), .istore 5), ((954 : Nat), .aload_n 2), ((955 : Nat), .aload_n 0), ((956 : Nat), .iload 4), ((958 : Nat), .iconst 1), ((959 : Nat), .iadd)]]
noncomputable def gm_m15 : List (List (Nat × Instr)) := [[((960 : Nat), .iaload), ((961 : Nat), .aload_n 0), ((962 : Nat), .iload 4), ((964 : Nat), .iconst 2), ((965 : Nat), .iadd), ((966 : Nat), .iaload), ((967 : Nat), .invokevirtual 210), ((970 : Nat), .istore 6), ((972 : Nat), .goto 1021), ((975 : Nat), .aload_n 1), ((976 : Nat), .aload_n 0), ((977 : Nat), .iload 4), ((979 : Nat), .iconst 1), ((980 : Nat), .iadd), ((981 : Nat), .iaload), ((982 : Nat), .aload_n 0), ((983 : Nat), .iload 4), ((985 : Nat), .iconst 2), ((986 : Nat), .iadd), ((987 : Nat), .iaload), ((988 : Nat), .aload_n 3), ((989 : Nat), .invokestatic 211)], [((992 : Nat), .istore 5), ((994 : Nat), .aload_n 2), ((995 : Nat), .aload_n 0), ((996 : Nat), .iload 4), ((998 : Nat), .iconst 1), ((999 : Nat), .iadd), ((1000 : Nat), .iaload), ((1001 : Nat), .aload_n 0), ((1002 : Nat), .iload 4), ((1004 : Nat), .iconst 2), ((1005 : Nat), .iadd), ((1006 : Nat), .iaload), ((1007 : Nat), .invokevirtual 213), ((1010 : Nat), .istore 6), ((1012 : Nat), .goto 981), ((1015 : Nat), .aload_n 1), ((1016 : Nat), .aload_n 0), ((1017 : Nat), .iload 4), ((1019 : Nat), .iconst 1), ((1020 : Nat), .iadd), ((1021 : Nat), .iaload), ((1022 : Nat), .aload_n 3), ((1023 : Nat), .invokestatic 214)]]
end
/-! 01a2.mn -/
section
/-! The law's own code, decoded (laid by wip/am/gen_tables.py). -/
noncomputable def gm_m16 : List (List (Nat × Instr)) := [[((1026 : Nat), .istore 5), ((1028 : Nat), .aload_n 2), ((1029 : Nat), .aload_n 0), ((1030 : Nat), .iload 4), ((1032 : Nat), .iconst 1), ((1033 : Nat), .iadd), ((1034 : Nat), .iaload), ((1035 : Nat), .invokevirtual 216), ((1038 : Nat), .istore 6), ((1040 : Nat), .goto 953), ((1043 : Nat), .aload_n 1), ((1044 : Nat), .invokevirtual 217), ((1047 : Nat), .pop), ((1048 : Nat), .aload_n 2), ((1049 : Nat), .invokevirtual 220), ((1052 : Nat), .pop), ((1053 : Nat), .goto 940)], [((1056 : Nat), .aload_n 1), ((1057 : Nat), .aload_n 0), ((1058 : Nat), .iload 4), ((1060 : Nat), .iconst 1), ((1061 : Nat), .iadd), ((1062 : Nat), .iaload), ((1063 : Nat), .ifCond .eq 7), ((1066 : Nat), .iconst 1), ((1067 : Nat), .goto 4), ((1070 : Nat), .iconst 0), ((1071 : Nat), .invokevirtual 221), ((1074 : Nat), .pop), ((1075 : Nat), .aload_n 2), ((1076 : Nat), .aload_n 0), ((1077 : Nat), .iload 4), ((1079 : Nat), .iconst 1), ((1080 : Nat), .iadd), ((1081 : Nat), .iaload), ((1082 : Nat), .ifCond .eq 7), ((1085 : Nat), .iconst 1), ((1086 : Nat), .goto 4)]]
noncomputable def gm_m17 : List (List (Nat × Instr)) := [[((1089 : Nat), .iconst 0), ((1090 : Nat), .invokevirtual 225), ((1093 : Nat), .pop), ((1094 : Nat), .goto 899), ((1097 : Nat), .aload_n 1), ((1098 : Nat), .aload_n 0), ((1099 : Nat), .iload 4), ((1101 : Nat), .iconst 1), ((1102 : Nat), .iadd), ((1103 : Nat), .iaload), ((1104 : Nat), .aload_n 3), ((1105 : Nat), .invokestatic 226), ((1108 : Nat), .istore 5), ((1110 : Nat), .aload_n 2), ((1111 : Nat), .aload_n 0), ((1112 : Nat), .iload 4), ((1114 : Nat), .iconst 1), ((1115 : Nat), .iadd), ((1116 : Nat), .iaload), ((1117 : Nat), .invokevirtual 228)], [((1120 : Nat), .istore 6), ((1122 : Nat), .goto 871), ((1125 : Nat), .aload_n 1), ((1126 : Nat), .aload_n 0), ((1127 : Nat), .iload 4), ((1129 : Nat), .iconst 1), ((1130 : Nat), .iadd), ((1131 : Nat), .iaload), ((1132 : Nat), .aload_n 0), ((1133 : Nat), .iload 4), ((1135 : Nat), .iconst 2), ((1136 : Nat), .iadd), ((1137 : Nat), .iaload), ((1138 : Nat), .aload_n 0), ((1139 : Nat), .iload 4), ((1141 : Nat), .iconst 3), ((1142 : Nat), .iadd), ((1143 : Nat), .iaload), ((1144 : Nat), .aload_n 3), ((1145 : Nat), .invokestatic 229), ((1148 : Nat), .istore 5), ((1150 : Nat), .aload_n 2), ((1151 : Nat), .aload_n 0)]]
noncomputable def gm_m18 : List (List (Nat × Instr)) := [[((1152 : Nat), .iload 4), ((1154 : Nat), .iconst 1), ((1155 : Nat), .iadd), ((1156 : Nat), .iaload), ((1157 : Nat), .aload_n 0), ((1158 : Nat), .iload 4), ((1160 : Nat), .iconst 2), ((1161 : Nat), .iadd), ((1162 : Nat), .iaload), ((1163 : Nat), .aload_n 0), ((1164 : Nat), .iload 4), ((1166 : Nat), .iconst 3), ((1167 : Nat), .iadd), ((1168 : Nat), .iaload), ((1169 : Nat), .invokevirtual 231), ((1172 : Nat), .istore 6), ((1174 : Nat), .goto 819), ((1177 : Nat), .aload_n 1), ((1178 : Nat), .aload_n 0), ((1179 : Nat), .iload 4), ((1181 : Nat), .iconst 1), ((1182 : Nat), .iadd), ((1183 : Nat), .iaload)], [((1184 : Nat), .aload_n 0), ((1185 : Nat), .iload 4), ((1187 : Nat), .iconst 2), ((1188 : Nat), .iadd), ((1189 : Nat), .iaload), ((1190 : Nat), .aload_n 0), ((1191 : Nat), .iload 4), ((1193 : Nat), .iconst 3), ((1194 : Nat), .iadd), ((1195 : Nat), .iaload), ((1196 : Nat), .aload_n 0), ((1197 : Nat), .iload 4), ((1199 : Nat), .iconst 4), ((1200 : Nat), .iadd), ((1201 : Nat), .iaload), ((1202 : Nat), .aload_n 3), ((1203 : Nat), .invokestatic 232), ((1206 : Nat), .istore 5), ((1208 : Nat), .aload_n 2), ((1209 : Nat), .aload_n 0), ((1210 : Nat), .iload 4), ((1212 : Nat), .iconst 1), ((1213 : Nat), .iadd), ((1214 : Nat), .iaload), ((1215 : Nat), .aload_n 0)]]
noncomputable def gm_m19 : List (List (Nat × Instr)) := [[((1216 : Nat), .iload 4), ((1218 : Nat), .iconst 2), ((1219 : Nat), .iadd), ((1220 : Nat), .iaload), ((1221 : Nat), .aload_n 0), ((1222 : Nat), .iload 4), ((1224 : Nat), .iconst 3), ((1225 : Nat), .iadd), ((1226 : Nat), .iaload), ((1227 : Nat), .aload_n 0), ((1228 : Nat), .iload 4), ((1230 : Nat), .iconst 4), ((1231 : Nat), .iadd), ((1232 : Nat), .iaload), ((1233 : Nat), .invokevirtual 234), ((1236 : Nat), .istore 6), ((1238 : Nat), .goto 755), ((1241 : Nat), .aload_n 1), ((1242 : Nat), .aload_n 0), ((1243 : Nat), .iload 4), ((1245 : Nat), .iconst 1), ((1246 : Nat), .iadd), ((1247 : Nat), .iaload)], [((1248 : Nat), .aload_n 0), ((1249 : Nat), .iload 4), ((1251 : Nat), .iconst 2), ((1252 : Nat), .iadd), ((1253 : Nat), .iaload), ((1254 : Nat), .aload_n 3), ((1255 : Nat), .invokestatic 235), ((1258 : Nat), .istore 5), ((1260 : Nat), .aload_n 2), ((1261 : Nat), .aload_n 0), ((1262 : Nat), .iload 4), ((1264 : Nat), .iconst 1), ((1265 : Nat), .iadd), ((1266 : Nat), .iaload), ((1267 : Nat), .aload_n 0), ((1268 : Nat), .iload 4), ((1270 : Nat), .iconst 2), ((1271 : Nat), .iadd), ((1272 : Nat), .iaload), ((1273 : Nat), .invokevirtual 237), ((1276 : Nat), .istore 6), ((1278 : Nat), .goto 715)]]
noncomputable def gm_m20 : List (List (Nat × Instr)) := [[((1281 : Nat), .aload_n 1), ((1282 : Nat), .aload_n 0), ((1283 : Nat), .iload 4), ((1285 : Nat), .iconst 1), ((1286 : Nat), .iadd), ((1287 : Nat), .iaload), ((1288 : Nat), .aload_n 0), ((1289 : Nat), .iload 4), ((1291 : Nat), .iconst 2), ((1292 : Nat), .iadd), ((1293 : Nat), .iaload), ((1294 : Nat), .aload_n 0), ((1295 : Nat), .iload 4), ((1297 : Nat), .iconst 3), ((1298 : Nat), .iadd), ((1299 : Nat), .iaload), ((1300 : Nat), .aload_n 3), ((1301 : Nat), .invokestatic 238), ((1304 : Nat), .istore 5), ((1306 : Nat), .aload_n 2), ((1307 : Nat), .aload_n 0), ((1308 : Nat), .iload 4), ((1310 : Nat), .iconst 1), ((1311 : Nat), .iadd)], [((1312 : Nat), .iaload), ((1313 : Nat), .aload_n 0), ((1314 : Nat), .iload 4), ((1316 : Nat), .iconst 2), ((1317 : Nat), .iadd), ((1318 : Nat), .iaload), ((1319 : Nat), .aload_n 0), ((1320 : Nat), .iload 4), ((1322 : Nat), .iconst 3), ((1323 : Nat), .iadd), ((1324 : Nat), .iaload), ((1325 : Nat), .invokevirtual 240), ((1328 : Nat), .istore 6), ((1330 : Nat), .goto 663), ((1333 : Nat), .aload_n 1), ((1334 : Nat), .invokevirtual 241), ((1337 : Nat), .pop), ((1338 : Nat), .aload_n 2), ((1339 : Nat), .invokevirtual 244), ((1342 : Nat), .pop), ((1343 : Nat), .goto 650)]]
noncomputable def gm_m21 : List (List (Nat × Instr)) := [[((1346 : Nat), .aload_n 1), ((1347 : Nat), .aload_n 3), ((1348 : Nat), .invokestatic 245), ((1351 : Nat), .istore 5), ((1353 : Nat), .aload_n 2), ((1354 : Nat), .invokevirtual 247), ((1357 : Nat), .istore 6), ((1359 : Nat), .goto 634), ((1362 : Nat), .aload_n 1), ((1363 : Nat), .aload_n 0), ((1364 : Nat), .iload 4), ((1366 : Nat), .iconst 1), ((1367 : Nat), .iadd), ((1368 : Nat), .iaload), ((1369 : Nat), .aload_n 0), ((1370 : Nat), .iload 4), ((1372 : Nat), .iconst 2), ((1373 : Nat), .iadd), ((1374 : Nat), .iaload), ((1375 : Nat), .aload_n 0)], [((1376 : Nat), .iload 4), ((1378 : Nat), .iconst 3), ((1379 : Nat), .iadd), ((1380 : Nat), .iaload), ((1381 : Nat), .ifCond .eq 7), ((1384 : Nat), .iconst 1), ((1385 : Nat), .goto 4), ((1388 : Nat), .iconst 0), ((1389 : Nat), .aload_n 3), ((1390 : Nat), .invokestatic 248), ((1393 : Nat), .istore 5), ((1395 : Nat), .aload_n 2), ((1396 : Nat), .aload_n 0), ((1397 : Nat), .iload 4), ((1399 : Nat), .iconst 1), ((1400 : Nat), .iadd), ((1401 : Nat), .iaload), ((1402 : Nat), .aload_n 0), ((1403 : Nat), .iload 4), ((1405 : Nat), .iconst 2), ((1406 : Nat), .iadd), ((1407 : Nat), .iaload)]]
end
/-! 01a3.mn -/
section
/-! The law's own code, decoded (laid by wip/am/gen_tables.py). -/
noncomputable def gm_m22 : List (List (Nat × Instr)) := [[((1408 : Nat), .aload_n 0), ((1409 : Nat), .iload 4), ((1411 : Nat), .iconst 3), ((1412 : Nat), .iadd), ((1413 : Nat), .iaload), ((1414 : Nat), .ifCond .eq 7), ((1417 : Nat), .iconst 1), ((1418 : Nat), .goto 4), ((1421 : Nat), .iconst 0), ((1422 : Nat), .invokevirtual 251), ((1425 : Nat), .istore 6), ((1427 : Nat), .goto 566), ((1430 : Nat), .aload_n 1), ((1431 : Nat), .aload_n 0), ((1432 : Nat), .iload 4), ((1434 : Nat), .iconst 1), ((1435 : Nat), .iadd), ((1436 : Nat), .iaload), ((1437 : Nat), .aload_n 0), ((1438 : Nat), .iload 4)], [((1440 : Nat), .iconst 2), ((1441 : Nat), .iadd), ((1442 : Nat), .iaload), ((1443 : Nat), .aload_n 0), ((1444 : Nat), .iload 4), ((1446 : Nat), .iconst 3), ((1447 : Nat), .iadd), ((1448 : Nat), .iaload), ((1449 : Nat), .aload_n 3), ((1450 : Nat), .invokestatic 252), ((1453 : Nat), .istore 5), ((1455 : Nat), .aload_n 2), ((1456 : Nat), .aload_n 0), ((1457 : Nat), .iload 4), ((1459 : Nat), .iconst 1), ((1460 : Nat), .iadd), ((1461 : Nat), .iaload), ((1462 : Nat), .aload_n 0), ((1463 : Nat), .iload 4), ((1465 : Nat), .iconst 2), ((1466 : Nat), .iadd), ((1467 : Nat), .iaload), ((1468 : Nat), .aload_n 0), ((1469 : Nat), .iload 4), ((1471 : Nat), .iconst 3)]]
noncomputable def gm_m23 : List (List (Nat × Instr)) := [[((1472 : Nat), .iadd), ((1473 : Nat), .iaload), ((1474 : Nat), .invokevirtual 254), ((1477 : Nat), .istore 6), ((1479 : Nat), .goto 514), ((1482 : Nat), .aload_n 1), ((1483 : Nat), .aload_n 0), ((1484 : Nat), .iload 4), ((1486 : Nat), .iconst 1), ((1487 : Nat), .iadd), ((1488 : Nat), .iaload), ((1489 : Nat), .aload_n 0), ((1490 : Nat), .iload 4), ((1492 : Nat), .iconst 2), ((1493 : Nat), .iadd), ((1494 : Nat), .iaload), ((1495 : Nat), .aload_n 3), ((1496 : Nat), .invokestatic 255), ((1499 : Nat), .istore 5), ((1501 : Nat), .aload_n 2), ((1502 : Nat), .aload_n 0), ((1503 : Nat), .iload 4)], [((1505 : Nat), .iconst 1), ((1506 : Nat), .iadd), ((1507 : Nat), .iaload), ((1508 : Nat), .aload_n 0), ((1509 : Nat), .iload 4), ((1511 : Nat), .iconst 2), ((1512 : Nat), .iadd), ((1513 : Nat), .iaload), ((1514 : Nat), .invokevirtual 257), ((1517 : Nat), .istore 6), ((1519 : Nat), .goto 474), ((1522 : Nat), .aload_n 1), ((1523 : Nat), .aload_n 0), ((1524 : Nat), .iload 4), ((1526 : Nat), .iconst 1), ((1527 : Nat), .iadd), ((1528 : Nat), .iaload), ((1529 : Nat), .aload_n 0), ((1530 : Nat), .iload 4), ((1532 : Nat), .iconst 2), ((1533 : Nat), .iadd), ((1534 : Nat), .iaload), ((1535 : Nat), .ifCond .eq 7)]]
noncomputable def gm_m24 : List (List (Nat × Instr)) := [[((1538 : Nat), .iconst 1), ((1539 : Nat), .goto 4), ((1542 : Nat), .iconst 0), ((1543 : Nat), .aload_n 3), ((1544 : Nat), .invokestatic 258), ((1547 : Nat), .istore 5), ((1549 : Nat), .aload_n 2), ((1550 : Nat), .aload_n 0), ((1551 : Nat), .iload 4), ((1553 : Nat), .iconst 1), ((1554 : Nat), .iadd), ((1555 : Nat), .iaload), ((1556 : Nat), .aload_n 0), ((1557 : Nat), .iload 4), ((1559 : Nat), .iconst 2), ((1560 : Nat), .iadd), ((1561 : Nat), .iaload), ((1562 : Nat), .ifCond .eq 7), ((1565 : Nat), .iconst 1), ((1566 : Nat), .goto 4)], [((1569 : Nat), .iconst 0), ((1570 : Nat), .invokevirtual 261), ((1573 : Nat), .istore 6), ((1575 : Nat), .goto 418), ((1578 : Nat), .aload_n 1), ((1579 : Nat), .aload_n 0), ((1580 : Nat), .iload 4), ((1582 : Nat), .iconst 1), ((1583 : Nat), .iadd), ((1584 : Nat), .iaload), ((1585 : Nat), .aload_n 0), ((1586 : Nat), .iload 4), ((1588 : Nat), .iconst 2), ((1589 : Nat), .iadd), ((1590 : Nat), .iaload), ((1591 : Nat), .ifCond .eq 7), ((1594 : Nat), .iconst 1), ((1595 : Nat), .goto 4), ((1598 : Nat), .iconst 0), ((1599 : Nat), .aload_n 3)]]
noncomputable def gm_m25 : List (List (Nat × Instr)) := [[((1600 : Nat), .invokestatic 262), ((1603 : Nat), .istore 5), ((1605 : Nat), .aload_n 2), ((1606 : Nat), .aload_n 0), ((1607 : Nat), .iload 4), ((1609 : Nat), .iconst 1), ((1610 : Nat), .iadd), ((1611 : Nat), .iaload), ((1612 : Nat), .aload_n 0), ((1613 : Nat), .iload 4), ((1615 : Nat), .iconst 2), ((1616 : Nat), .iadd), ((1617 : Nat), .iaload), ((1618 : Nat), .ifCond .eq 7), ((1621 : Nat), .iconst 1), ((1622 : Nat), .goto 4), ((1625 : Nat), .iconst 0), ((1626 : Nat), .invokevirtual 264), ((1629 : Nat), .istore 6), ((1631 : Nat), .goto 362)], [((1634 : Nat), .aload_n 1), ((1635 : Nat), .aload_n 0), ((1636 : Nat), .iload 4), ((1638 : Nat), .iconst 1), ((1639 : Nat), .iadd), ((1640 : Nat), .iaload), ((1641 : Nat), .aload_n 0), ((1642 : Nat), .iload 4), ((1644 : Nat), .iconst 2), ((1645 : Nat), .iadd), ((1646 : Nat), .iaload), ((1647 : Nat), .aload_n 3), ((1648 : Nat), .invokestatic 265), ((1651 : Nat), .istore 5), ((1653 : Nat), .aload_n 2), ((1654 : Nat), .aload_n 0), ((1655 : Nat), .iload 4), ((1657 : Nat), .iconst 1), ((1658 : Nat), .iadd), ((1659 : Nat), .iaload), ((1660 : Nat), .aload_n 0), ((1661 : Nat), .iload 4), ((1663 : Nat), .iconst 2)]]
noncomputable def gm_m26 : List (List (Nat × Instr)) := [[((1664 : Nat), .iadd), ((1665 : Nat), .iaload), ((1666 : Nat), .invokevirtual 267), ((1669 : Nat), .istore 6), ((1671 : Nat), .goto 322), ((1674 : Nat), .aload_n 1), ((1675 : Nat), .aload_n 0), ((1676 : Nat), .iload 4), ((1678 : Nat), .iconst 1), ((1679 : Nat), .iadd), ((1680 : Nat), .iaload), ((1681 : Nat), .aload_n 3), ((1682 : Nat), .invokestatic 268), ((1685 : Nat), .istore 5), ((1687 : Nat), .aload_n 2), ((1688 : Nat), .aload_n 0), ((1689 : Nat), .iload 4), ((1691 : Nat), .iconst 1), ((1692 : Nat), .iadd), ((1693 : Nat), .iaload), ((1694 : Nat), .invokevirtual 270)], [((1697 : Nat), .istore 6), ((1699 : Nat), .goto 294), ((1702 : Nat), .aload_n 1), ((1703 : Nat), .aload_n 0), ((1704 : Nat), .iload 4), ((1706 : Nat), .iconst 1), ((1707 : Nat), .iadd), ((1708 : Nat), .iaload), ((1709 : Nat), .invokevirtual 271), ((1712 : Nat), .pop), ((1713 : Nat), .aload_n 2), ((1714 : Nat), .aload_n 0), ((1715 : Nat), .iload 4), ((1717 : Nat), .iconst 1), ((1718 : Nat), .iadd), ((1719 : Nat), .iaload), ((1720 : Nat), .invokevirtual 274), ((1723 : Nat), .pop), ((1724 : Nat), .goto 269), ((1727 : Nat), .aload_n 1)]]
end
/-! 01a4.mn -/
section
/-! The law's own code, decoded (laid by wip/am/gen_tables.py). -/
noncomputable def gm_m27 : List (List (Nat × Instr)) := [[((1728 : Nat), .aload_n 0), ((1729 : Nat), .iload 4), ((1731 : Nat), .iconst 1), ((1732 : Nat), .iadd), ((1733 : Nat), .iaload), ((1734 : Nat), .aload_n 0), ((1735 : Nat), .iload 4), ((1737 : Nat), .iconst 2), ((1738 : Nat), .iadd), ((1739 : Nat), .iaload), ((1740 : Nat), .ifCond .eq 7), ((1743 : Nat), .iconst 1), ((1744 : Nat), .goto 4), ((1747 : Nat), .iconst 0), ((1748 : Nat), .aload_n 3), ((1749 : Nat), .invokestatic 275), ((1752 : Nat), .istore 5), ((1754 : Nat), .aload_n 2), ((1755 : Nat), .aload_n 0), ((1756 : Nat), .iload 4), ((1758 : Nat), .iconst 1), ((1759 : Nat), .iadd)], [((1760 : Nat), .iaload), ((1761 : Nat), .aload_n 0), ((1762 : Nat), .iload 4), ((1764 : Nat), .iconst 2), ((1765 : Nat), .iadd), ((1766 : Nat), .iaload), ((1767 : Nat), .ifCond .eq 7), ((1770 : Nat), .iconst 1), ((1771 : Nat), .goto 4), ((1774 : Nat), .iconst 0), ((1775 : Nat), .invokevirtual 277), ((1778 : Nat), .istore 6), ((1780 : Nat), .goto 213), ((1783 : Nat), .aload_n 1), ((1784 : Nat), .aload_n 0), ((1785 : Nat), .iload 4), ((1787 : Nat), .iconst 1), ((1788 : Nat), .iadd), ((1789 : Nat), .iaload), ((1790 : Nat), .aload_n 0), ((1791 : Nat), .iload 4)]]
noncomputable def gm_m28 : List (List (Nat × Instr)) := [[((1793 : Nat), .iconst 2), ((1794 : Nat), .iadd), ((1795 : Nat), .iaload), ((1796 : Nat), .aload_n 3), ((1797 : Nat), .invokestatic 278), ((1800 : Nat), .istore 5), ((1802 : Nat), .aload_n 2), ((1803 : Nat), .aload_n 0), ((1804 : Nat), .iload 4), ((1806 : Nat), .iconst 1), ((1807 : Nat), .iadd), ((1808 : Nat), .iaload), ((1809 : Nat), .aload_n 0), ((1810 : Nat), .iload 4), ((1812 : Nat), .iconst 2), ((1813 : Nat), .iadd), ((1814 : Nat), .iaload), ((1815 : Nat), .invokevirtual 280), ((1818 : Nat), .istore 6), ((1820 : Nat), .goto 173), ((1823 : Nat), .aload_n 1)], [((1824 : Nat), .aload_n 0), ((1825 : Nat), .iload 4), ((1827 : Nat), .iconst 1), ((1828 : Nat), .iadd), ((1829 : Nat), .iaload), ((1830 : Nat), .aload_n 0), ((1831 : Nat), .iload 4), ((1833 : Nat), .iconst 2), ((1834 : Nat), .iadd), ((1835 : Nat), .iaload), ((1836 : Nat), .aload_n 3), ((1837 : Nat), .invokestatic 281), ((1840 : Nat), .istore 5), ((1842 : Nat), .aload_n 2), ((1843 : Nat), .aload_n 0), ((1844 : Nat), .iload 4), ((1846 : Nat), .iconst 1), ((1847 : Nat), .iadd), ((1848 : Nat), .iaload), ((1849 : Nat), .aload_n 0), ((1850 : Nat), .iload 4), ((1852 : Nat), .iconst 2), ((1853 : Nat), .iadd), ((1854 : Nat), .iaload), ((1855 : Nat), .invokevirtual 283)]]
noncomputable def gm_m29 : List (List (Nat × Instr)) := [[((1858 : Nat), .istore 6), ((1860 : Nat), .goto 133), ((1863 : Nat), .aload_n 1), ((1864 : Nat), .aload_n 0), ((1865 : Nat), .iload 4), ((1867 : Nat), .iconst 1), ((1868 : Nat), .iadd), ((1869 : Nat), .iaload), ((1870 : Nat), .aload_n 3), ((1871 : Nat), .invokestatic 284), ((1874 : Nat), .istore 5), ((1876 : Nat), .aload_n 2), ((1877 : Nat), .aload_n 0), ((1878 : Nat), .iload 4), ((1880 : Nat), .iconst 1), ((1881 : Nat), .iadd), ((1882 : Nat), .iaload), ((1883 : Nat), .invokevirtual 286), ((1886 : Nat), .istore 6)], [((1888 : Nat), .goto 105), ((1891 : Nat), .aload_n 1), ((1892 : Nat), .aload_n 0), ((1893 : Nat), .iload 4), ((1895 : Nat), .iconst 1), ((1896 : Nat), .iadd), ((1897 : Nat), .iaload), ((1898 : Nat), .aload_n 0), ((1899 : Nat), .iload 4), ((1901 : Nat), .iconst 2), ((1902 : Nat), .iadd), ((1903 : Nat), .iaload), ((1904 : Nat), .aload_n 3), ((1905 : Nat), .invokestatic 287), ((1908 : Nat), .istore 5), ((1910 : Nat), .aload_n 2), ((1911 : Nat), .aload_n 0), ((1912 : Nat), .iload 4), ((1914 : Nat), .iconst 1), ((1915 : Nat), .iadd), ((1916 : Nat), .iaload), ((1917 : Nat), .aload_n 0), ((1918 : Nat), .iload 4)]]
noncomputable def gm_m30 : List (List (Nat × Instr)) := [[((1920 : Nat), .iconst 2), ((1921 : Nat), .iadd), ((1922 : Nat), .iaload), ((1923 : Nat), .invokevirtual 289), ((1926 : Nat), .istore 6), ((1928 : Nat), .goto 65), ((1931 : Nat), .aload_n 1), ((1932 : Nat), .invokevirtual 290), ((1935 : Nat), .pop), ((1936 : Nat), .aload_n 2), ((1937 : Nat), .invokevirtual 294), ((1940 : Nat), .pop), ((1941 : Nat), .goto 52), ((1944 : Nat), .aload_n 1), ((1945 : Nat), .invokevirtual 295), ((1948 : Nat), .aload_n 2), ((1949 : Nat), .invokevirtual 298)], [((1952 : Nat), .goto 41), ((1955 : Nat), .aload_n 1), ((1956 : Nat), .invokevirtual 299), ((1959 : Nat), .pop), ((1960 : Nat), .aload_n 2), ((1961 : Nat), .invokevirtual 302), ((1964 : Nat), .pop), ((1965 : Nat), .goto 28), ((1968 : Nat), .aload_n 1), ((1969 : Nat), .aload_n 0), ((1970 : Nat), .iload 4), ((1972 : Nat), .iconst 1), ((1973 : Nat), .iadd), ((1974 : Nat), .iaload), ((1975 : Nat), .invokevirtual 303), ((1978 : Nat), .pop), ((1979 : Nat), .aload_n 2), ((1980 : Nat), .aload_n 0), ((1981 : Nat), .iload 4), ((1983 : Nat), .iconst 1)]]
noncomputable def gm_m31 : List (List (Nat × Instr)) := [[((1984 : Nat), .iadd), ((1985 : Nat), .iaload), ((1986 : Nat), .invokevirtual 306), ((1989 : Nat), .pop), ((1990 : Nat), .goto 3), ((1993 : Nat), .iinc 4 6), ((1996 : Nat), .goto (-1973)), ((1999 : Nat), .iconst 1), ((2000 : Nat), .ireturn)]]
end
