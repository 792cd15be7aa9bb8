/-! TABLES of this claim, laid by wip/am/gen_tables.py out of the task folder: class names, classes of which objects are made, methods, fields, calls. -/
def gm_rnl : List String := ["GlacierMail", "GlacierMail$State", "GlacierMail$Rows", "GlacierMail$History", "GlacierMail$Ice", "java/util/Arrays", "java/lang/Math", "GlacierMail$Way", "GlacierMail$Answers", "GlacierMail$ValleyReader", "GlacierMail$TextReader", "GlacierMail$Words", "GlacierMail$LawReader", "GlacierMail$Law", "java/lang/Integer", "GlacierMailLaw", "java/lang/String", "java/lang/StringLatin1", "jdk/internal/util/Preconditions", "java/lang/StringUTF16", "GlacierMailModel"]
def gm_rn (i : Nat) : String := (gm_rnl[i]?).getD ""
def gm_T0 : u_T := fun k => match k with
  | 0 => ("GlacierMail", "tape", "[B", true)
  | 1 => ("GlacierMail", "tapeLength", "I", false)
  | 2 => ("GlacierMail", "wrongByte", "I", false)
  | 3 => ("GlacierMail", "told", "LGlacierMail$State;", true)
  | 4 => ("GlacierMail", "draft", "LGlacierMail$State;", true)
  | 5 => ("GlacierMail", "image", "LGlacierMail$State;", true)
  | 6 => ("GlacierMail", "imageKept", "Z", false)
  | 7 => ("GlacierMail", "history", "LGlacierMail$History;", true)
  | 8 => ("GlacierMail", "ice", "LGlacierMail$Ice;", true)
  | 9 => ("GlacierMail", "way", "LGlacierMail$Way;", true)
  | 10 => ("GlacierMail", "otherWay", "LGlacierMail$Way;", true)
  | 11 => ("GlacierMail", "answers", "LGlacierMail$Answers;", true)
  | 12 => ("GlacierMail", "valleyReader", "LGlacierMail$ValleyReader;", true)
  | 13 => ("GlacierMail", "lawReader", "LGlacierMail$LawReader;", true)
  | 14 => ("GlacierMail", "ends", "LGlacierMail$Rows;", true)
  | 15 => ("GlacierMail", "endsKnown", "Z", false)
  | 16 => ("GlacierMail", "came", "LGlacierMail$Rows;", true)
  | _ => ("GlacierMail", "taken", "LGlacierMail$Rows;", true)
def gm_ty0 : Nat → FieldType := fun k => match k with
  | 0 => (.array .byte)
  | 1 => .int
  | 2 => .int
  | 3 => (.object "GlacierMail$State")
  | 4 => (.object "GlacierMail$State")
  | 5 => (.object "GlacierMail$State")
  | 6 => .boolean
  | 7 => (.object "GlacierMail$History")
  | 8 => (.object "GlacierMail$Ice")
  | 9 => (.object "GlacierMail$Way")
  | 10 => (.object "GlacierMail$Way")
  | 11 => (.object "GlacierMail$Answers")
  | 12 => (.object "GlacierMail$ValleyReader")
  | 13 => (.object "GlacierMail$LawReader")
  | 14 => (.object "GlacierMail$Rows")
  | 15 => .boolean
  | 16 => (.object "GlacierMail$Rows")
  | _ => (.object "GlacierMail$Rows")
theorem gm_nm0 : ∀ a, a < 18 → ∀ b, b < 18 → a ≠ b → (gm_T0 a).2.1 ≠ (gm_T0 b).2.1 := by decide +kernel
theorem gm_tk0 : ∀ k, k < 18 → parseFieldDescriptor (gm_T0 k).2.2.1 = some (gm_ty0 k) := by decide +kernel
def gm_T1 : u_T := fun k => match k with
  | 0 => ("GlacierMail$State", "lanes", "I", false)
  | 1 => ("GlacierMail$State", "last", "I", false)
  | 2 => ("GlacierMail$State", "snow", "I", false)
  | 3 => ("GlacierMail$State", "fall", "I", false)
  | 4 => ("GlacierMail$State", "stripe", "I", false)
  | 5 => ("GlacierMail$State", "seed", "I", false)
  | 6 => ("GlacierMail$State", "now", "I", false)
  | 7 => ("GlacierMail$State", "texts", "I", false)
  | 8 => ("GlacierMail$State", "law", "LGlacierMail$Law;", false)
  | 9 => ("GlacierMail$State", "sections", "LGlacierMail$Rows;", true)
  | 10 => ("GlacierMail$State", "floods", "LGlacierMail$Rows;", true)
  | 11 => ("GlacierMail$State", "people", "LGlacierMail$Rows;", true)
  | 12 => ("GlacierMail$State", "letters", "LGlacierMail$Rows;", true)
  | 13 => ("GlacierMail$State", "tables", "LGlacierMail$Rows;", true)
  | _ => ("GlacierMail$State", "openings", "LGlacierMail$Rows;", true)
def gm_ty1 : Nat → FieldType := fun k => match k with
  | 0 => .int
  | 1 => .int
  | 2 => .int
  | 3 => .int
  | 4 => .int
  | 5 => .int
  | 6 => .int
  | 7 => .int
  | 8 => (.object "GlacierMail$Law")
  | 9 => (.object "GlacierMail$Rows")
  | 10 => (.object "GlacierMail$Rows")
  | 11 => (.object "GlacierMail$Rows")
  | 12 => (.object "GlacierMail$Rows")
  | 13 => (.object "GlacierMail$Rows")
  | _ => (.object "GlacierMail$Rows")
theorem gm_nm1 : ∀ a, a < 15 → ∀ b, b < 15 → a ≠ b → (gm_T1 a).2.1 ≠ (gm_T1 b).2.1 := by decide +kernel
theorem gm_tk1 : ∀ k, k < 15 → parseFieldDescriptor (gm_T1 k).2.2.1 = some (gm_ty1 k) := by decide +kernel
def gm_T2 : u_T := fun k => match k with
  | 0 => ("GlacierMail$Rows", "most", "I", true)
  | 1 => ("GlacierMail$Rows", "width", "I", true)
  | 2 => ("GlacierMail$Rows", "cells", "[I", true)
  | _ => ("GlacierMail$Rows", "size", "I", false)
def gm_ty2 : Nat → FieldType := fun k => match k with
  | 0 => .int
  | 1 => .int
  | 2 => (.array .int)
  | _ => .int
theorem gm_nm2 : ∀ a, a < 4 → ∀ b, b < 4 → a ≠ b → (gm_T2 a).2.1 ≠ (gm_T2 b).2.1 := by decide +kernel
theorem gm_tk2 : ∀ k, k < 4 → parseFieldDescriptor (gm_T2 k).2.2.1 = some (gm_ty2 k) := by decide +kernel
def gm_T3 : u_T := fun k => match k with
  | 0 => ("GlacierMail$History", "ahead", "[LGlacierMail$State;", true)
  | 1 => ("GlacierMail$History", "next", "I", false)
  | _ => ("GlacierMail$History", "size", "I", false)
def gm_ty3 : Nat → FieldType := fun k => match k with
  | 0 => (.array (.object "GlacierMail$State"))
  | 1 => .int
  | _ => .int
theorem gm_nm3 : ∀ a, a < 3 → ∀ b, b < 3 → a ≠ b → (gm_T3 a).2.1 ≠ (gm_T3 b).2.1 := by decide +kernel
theorem gm_tk3 : ∀ k, k < 3 → parseFieldDescriptor (gm_T3 k).2.2.1 = some (gm_ty3 k) := by decide +kernel
def gm_T4 : u_T := fun k => match k with
  | 0 => ("GlacierMail$Ice", "told", "LGlacierMail$State;", true)
  | 1 => ("GlacierMail$Ice", "heats", "[I", true)
  | 2 => ("GlacierMail$Ice", "speeds", "[I", true)
  | 3 => ("GlacierMail$Ice", "floods", "[I", true)
  | 4 => ("GlacierMail$Ice", "facts", "[I", true)
  | 5 => ("GlacierMail$Ice", "flows", "[J", true)
  | _ => ("GlacierMail$Ice", "flowsForgotten", "Z", false)
def gm_ty4 : Nat → FieldType := fun k => match k with
  | 0 => (.object "GlacierMail$State")
  | 1 => (.array .int)
  | 2 => (.array .int)
  | 3 => (.array .int)
  | 4 => (.array .int)
  | 5 => (.array .long)
  | _ => .boolean
theorem gm_nm4 : ∀ a, a < 7 → ∀ b, b < 7 → a ≠ b → (gm_T4 a).2.1 ≠ (gm_T4 b).2.1 := by decide +kernel
theorem gm_tk4 : ∀ k, k < 7 → parseFieldDescriptor (gm_T4 k).2.2.1 = some (gm_ty4 k) := by decide +kernel
def gm_T5 : u_T := fun k => match k with
  | 0 => ("GlacierMail$Way", "told", "LGlacierMail$State;", true)
  | 1 => ("GlacierMail$Way", "ice", "LGlacierMail$Ice;", true)
  | 2 => ("GlacierMail$Way", "lane", "I", false)
  | 3 => ("GlacierMail$Way", "rock", "Z", false)
  | 4 => ("GlacierMail$Way", "leftOut", "I", false)
  | 5 => ("GlacierMail$Way", "row", "I", false)
  | 6 => ("GlacierMail$Way", "deep", "I", false)
  | 7 => ("GlacierMail$Way", "year", "I", false)
  | _ => ("GlacierMail$Way", "moved", "I", false)
def gm_ty5 : Nat → FieldType := fun k => match k with
  | 0 => (.object "GlacierMail$State")
  | 1 => (.object "GlacierMail$Ice")
  | 2 => .int
  | 3 => .boolean
  | 4 => .int
  | 5 => .int
  | 6 => .int
  | 7 => .int
  | _ => .int
theorem gm_nm5 : ∀ a, a < 9 → ∀ b, b < 9 → a ≠ b → (gm_T5 a).2.1 ≠ (gm_T5 b).2.1 := by decide +kernel
theorem gm_tk5 : ∀ k, k < 9 → parseFieldDescriptor (gm_T5 k).2.2.1 = some (gm_ty5 k) := by decide +kernel
def gm_T6 : u_T := fun k => match k with
  | 0 => ("GlacierMail$Answers", "told", "LGlacierMail$State;", true)
  | 1 => ("GlacierMail$Answers", "way", "LGlacierMail$Way;", true)
  | 2 => ("GlacierMail$Answers", "had", "LGlacierMail$Rows;", true)
  | _ => ("GlacierMail$Answers", "outs", "LGlacierMail$Rows;", true)
def gm_ty6 : Nat → FieldType := fun k => match k with
  | 0 => (.object "GlacierMail$State")
  | 1 => (.object "GlacierMail$Way")
  | 2 => (.object "GlacierMail$Rows")
  | _ => (.object "GlacierMail$Rows")
theorem gm_nm6 : ∀ a, a < 4 → ∀ b, b < 4 → a ≠ b → (gm_T6 a).2.1 ≠ (gm_T6 b).2.1 := by decide +kernel
theorem gm_tk6 : ∀ k, k < 4 → parseFieldDescriptor (gm_T6 k).2.2.1 = some (gm_ty6 k) := by decide +kernel
def gm_T7 : u_T := fun k => match k with
  | 0 => ("GlacierMail$TextReader", "words", "LGlacierMail$Words;", true)
  | 1 => ("GlacierMail$TextReader", "mostLines", "I", true)
  | _ => ("GlacierMail$ValleyReader", "draft", "LGlacierMail$State;", true)
def gm_ty7 : Nat → FieldType := fun k => match k with
  | 0 => (.object "GlacierMail$Words")
  | 1 => .int
  | _ => (.object "GlacierMail$State")
theorem gm_nm7 : ∀ a, a < 3 → ∀ b, b < 3 → a ≠ b → (gm_T7 a).2.1 ≠ (gm_T7 b).2.1 := by decide +kernel
theorem gm_tk7 : ∀ k, k < 3 → parseFieldDescriptor (gm_T7 k).2.2.1 = some (gm_ty7 k) := by decide +kernel
def gm_T8 : u_T := fun k => match k with
  | 0 => ("GlacierMail$Words", "text", "[B", true)
  | 1 => ("GlacierMail$Words", "mostDigits", "I", true)
  | 2 => ("GlacierMail$Words", "length", "I", false)
  | 3 => ("GlacierMail$Words", "place", "I", false)
  | 4 => ("GlacierMail$Words", "begin", "I", false)
  | 5 => ("GlacierMail$Words", "wrong", "I", false)
  | 6 => ("GlacierMail$Words", "kind", "I", false)
  | _ => ("GlacierMail$Words", "value", "I", false)
def gm_ty8 : Nat → FieldType := fun k => match k with
  | 0 => (.array .byte)
  | 1 => .int
  | 2 => .int
  | 3 => .int
  | 4 => .int
  | 5 => .int
  | 6 => .int
  | _ => .int
theorem gm_nm8 : ∀ a, a < 8 → ∀ b, b < 8 → a ≠ b → (gm_T8 a).2.1 ≠ (gm_T8 b).2.1 := by decide +kernel
theorem gm_tk8 : ∀ k, k < 8 → parseFieldDescriptor (gm_T8 k).2.2.1 = some (gm_ty8 k) := by decide +kernel
def gm_T9 : u_T := fun k => match k with
  | 0 => ("GlacierMail$TextReader", "words", "LGlacierMail$Words;", true)
  | 1 => ("GlacierMail$TextReader", "mostLines", "I", true)
  | 2 => ("GlacierMail$LawReader", "lines", "LGlacierMail$Rows;", true)
  | 3 => ("GlacierMail$LawReader", "codes", "[I", true)
  | _ => ("GlacierMail$LawReader", "used", "I", false)
def gm_ty9 : Nat → FieldType := fun k => match k with
  | 0 => (.object "GlacierMail$Words")
  | 1 => .int
  | 2 => (.object "GlacierMail$Rows")
  | 3 => (.array .int)
  | _ => .int
theorem gm_nm9 : ∀ a, a < 5 → ∀ b, b < 5 → a ≠ b → (gm_T9 a).2.1 ≠ (gm_T9 b).2.1 := by decide +kernel
theorem gm_tk9 : ∀ k, k < 5 → parseFieldDescriptor (gm_T9 k).2.2.1 = some (gm_ty9 k) := by decide +kernel
def gm_T10 : u_T := fun k => match k with
  | 0 => ("GlacierMail$Law", "lines", "LGlacierMail$Rows;", true)
  | _ => ("GlacierMail$Law", "codes", "[I", true)
def gm_ty10 : Nat → FieldType := fun k => match k with
  | 0 => (.object "GlacierMail$Rows")
  | _ => (.array .int)
theorem gm_nm10 : ∀ a, a < 2 → ∀ b, b < 2 → a ≠ b → (gm_T10 a).2.1 ≠ (gm_T10 b).2.1 := by decide +kernel
theorem gm_tk10 : ∀ k, k < 2 → parseFieldDescriptor (gm_T10 k).2.2.1 = some (gm_ty10 k) := by decide +kernel
def gm_T11 : u_T := fun k => match k with
  | 0 => ("GlacierMailModel", "thrown", "I", false)
  | 1 => ("GlacierMailModel", "world", "[I", true)
  | 2 => ("GlacierMailModel", "image", "[I", true)
  | 3 => ("GlacierMailModel", "before", "[I", true)
  | 4 => ("GlacierMailModel", "acts", "[I", true)
  | 5 => ("GlacierMailModel", "hasImage", "Z", false)
  | 6 => ("GlacierMailModel", "remembered", "I", false)
  | 7 => ("GlacierMailModel", "tape", "[B", true)
  | 8 => ("GlacierMailModel", "taped", "I", false)
  | 9 => ("GlacierMailModel", "point", "I", false)
  | 10 => ("GlacierMailModel", "end", "I", false)
  | 11 => ("GlacierMailModel", "begin", "I", false)
  | 12 => ("GlacierMailModel", "deep", "I", false)
  | 13 => ("GlacierMailModel", "faultAt", "I", false)
  | 14 => ("GlacierMailModel", "five", "[I", true)
  | 15 => ("GlacierMailModel", "steps", "I", false)
  | 16 => ("GlacierMailModel", "value", "[I", true)
  | 17 => ("GlacierMailModel", "itsLane", "I", false)
  | 18 => ("GlacierMailModel", "itsRow", "I", false)
  | 19 => ("GlacierMailModel", "itsYear", "I", false)
  | 20 => ("GlacierMailModel", "itsSpeed", "I", false)
  | 21 => ("GlacierMailModel", "itsPerson", "I", false)
  | 22 => ("GlacierMailModel", "itsAge", "I", false)
  | 23 => ("GlacierMailModel", "itsDepth", "I", false)
  | 24 => ("GlacierMailModel", "heats", "[I", true)
  | 25 => ("GlacierMailModel", "flows", "[B", true)
  | 26 => ("GlacierMailModel", "flowing", "I", false)
  | 27 => ("GlacierMailModel", "rows", "[I", true)
  | 28 => ("GlacierMailModel", "depths", "[I", true)
  | 29 => ("GlacierMailModel", "out", "I", false)
  | 30 => ("GlacierMailModel", "moved", "I", false)
  | 31 => ("GlacierMailModel", "outs", "[I", true)
  | 32 => ("GlacierMailModel", "otherRows", "[I", true)
  | 33 => ("GlacierMailModel", "throwing", "[I", true)
  | 34 => ("GlacierMailModel", "having", "[I", true)
  | 35 => ("GlacierMailModel", "outYear", "[I", true)
  | 36 => ("GlacierMailModel", "backYear", "I", false)
  | 37 => ("GlacierMailModel", "loot", "[I", true)
  | _ => ("GlacierMailModel", "more", "[I", true)
def gm_ty11 : Nat → FieldType := fun k => match k with
  | 0 => .int
  | 1 => (.array .int)
  | 2 => (.array .int)
  | 3 => (.array .int)
  | 4 => (.array .int)
  | 5 => .boolean
  | 6 => .int
  | 7 => (.array .byte)
  | 8 => .int
  | 9 => .int
  | 10 => .int
  | 11 => .int
  | 12 => .int
  | 13 => .int
  | 14 => (.array .int)
  | 15 => .int
  | 16 => (.array .int)
  | 17 => .int
  | 18 => .int
  | 19 => .int
  | 20 => .int
  | 21 => .int
  | 22 => .int
  | 23 => .int
  | 24 => (.array .int)
  | 25 => (.array .byte)
  | 26 => .int
  | 27 => (.array .int)
  | 28 => (.array .int)
  | 29 => .int
  | 30 => .int
  | 31 => (.array .int)
  | 32 => (.array .int)
  | 33 => (.array .int)
  | 34 => (.array .int)
  | 35 => (.array .int)
  | 36 => .int
  | 37 => (.array .int)
  | _ => (.array .int)
theorem gm_nm11 : ∀ a, a < 39 → ∀ b, b < 39 → a ≠ b → (gm_T11 a).2.1 ≠ (gm_T11 b).2.1 := by decide +kernel
theorem gm_tk11 : ∀ k, k < 39 → parseFieldDescriptor (gm_T11 k).2.2.1 = some (gm_ty11 k) := by decide +kernel
abbrev gm_cs : List vw_C := [("GlacierMail", gm_T0, 18), ("GlacierMail$State", gm_T1, 15), ("GlacierMail$Rows", gm_T2, 4), ("GlacierMail$History", gm_T3, 3), ("GlacierMail$Ice", gm_T4, 7), ("GlacierMail$Way", gm_T5, 9), ("GlacierMail$Answers", gm_T6, 4), ("GlacierMail$ValleyReader", gm_T7, 3), ("GlacierMail$Words", gm_T8, 8), ("GlacierMail$LawReader", gm_T9, 5), ("GlacierMail$Law", gm_T10, 2), ("GlacierMailModel", gm_T11, 39)]
/-- by class number: how many fields; is the field a reference; its type; may it be written once alone -/
def gm_nf (c : Nat) : Nat := ([18, 15, 4, 3, 7, 9, 4, 3, 8, 5, 2, 39][c]?).getD 0
def gm_isr (c j : Nat) : Bool := ((([[true, false, false, true, true, true, false, true, true, true, true, true, true, true, true, false, true, true], [false, false, false, false, false, false, false, false, true, true, true, true, true, true, true], [false, false, true, false], [true, false, false], [true, true, true, true, true, true, false], [true, true, false, false, false, false, false, false, false], [true, true, true, true], [true, false, true], [true, false, false, false, false, false, false, false], [true, false, true, true, false], [true, true], [false, true, true, true, true, false, false, true, false, false, false, false, false, false, true, false, true, false, false, false, false, false, false, false, true, true, false, true, true, false, false, true, true, true, true, true, false, true, true]] : List (List Bool))[c]?).getD [])[j]?.getD false
def gm_fin (c j : Nat) : Bool := ((([[true, false, false, true, true, true, false, true, true, true, true, true, true, true, true, false, true, true], [false, false, false, false, false, false, false, false, false, true, true, true, true, true, true], [true, true, true, false], [true, false, false], [true, true, true, true, true, true, false], [true, true, false, false, false, false, false, false, false], [true, true, true, true], [true, true, true], [true, true, false, false, false, false, false, false], [true, true, true, true, false], [true, true], [false, true, true, true, true, false, false, true, false, false, false, false, false, false, true, false, true, false, false, false, false, false, false, false, true, true, false, true, true, false, false, true, true, true, true, true, false, true, true]] : List (List Bool))[c]?).getD [])[j]?.getD false
def gm_tyl : List (Nat → FieldType) := [gm_ty0, gm_ty1, gm_ty2, gm_ty3, gm_ty4, gm_ty5, gm_ty6, gm_ty7, gm_ty8, gm_ty9, gm_ty10, gm_ty11]
def gm_mnl : List MethodName := [⟨"GlacierMail", "<init>", "()V"⟩, ⟨"GlacierMail$State", "<init>", "()V"⟩, ⟨"GlacierMail$Rows", "<init>", "(II)V"⟩, ⟨"GlacierMail$History", "<init>", "()V"⟩, ⟨"GlacierMail$Ice", "<init>", "(LGlacierMail$State;)V"⟩, ⟨"GlacierMail$Ice", "renew", "()V"⟩, ⟨"GlacierMail$Ice", "reckonHeats", "()V"⟩, ⟨"GlacierMail$Ice", "reckonSpeeds", "()V"⟩, ⟨"java/util/Arrays", "fill", "([II)V"⟩, ⟨"GlacierMail$Rows", "size", "()I"⟩, ⟨"GlacierMail$Rows", "get", "(II)I"⟩, ⟨"java/lang/Math", "max", "(II)I"⟩, ⟨"GlacierMail$Ice", "reckonFloods", "()V"⟩, ⟨"GlacierMail$Way", "<init>", "(LGlacierMail$State;LGlacierMail$Ice;)V"⟩, ⟨"GlacierMail$Answers", "<init>", "(LGlacierMail$State;LGlacierMail$Way;)V"⟩, ⟨"GlacierMail$ValleyReader", "<init>", "([BLGlacierMail$State;)V"⟩, ⟨"GlacierMail$TextReader", "<init>", "([BII)V"⟩, ⟨"GlacierMail$Words", "<init>", "([BI)V"⟩, ⟨"GlacierMail$LawReader", "<init>", "([B)V"⟩, ⟨"GlacierMail", "feed", "(IIIII)I"⟩, ⟨"GlacierMail", "putNumber", "(I)V"⟩, ⟨"GlacierMail", "end", "(I)Z"⟩, ⟨"GlacierMail", "fault", "()I"⟩, ⟨"GlacierMail", "lost", "()I"⟩, ⟨"GlacierMail", "reckonEnds", "()V"⟩, ⟨"GlacierMail$Rows", "reset", "(I)V"⟩, ⟨"java/lang/Math", "min", "(II)I"⟩, ⟨"GlacierMail$Way", "startLetter", "(I)V"⟩, ⟨"GlacierMail$State", "isRock", "(I)Z"⟩, ⟨"GlacierMail$Way", "start", "(IIIZ)V"⟩, ⟨"GlacierMail$Way", "runOut", "(I)I"⟩, ⟨"GlacierMail$Way", "isOut", "()Z"⟩, ⟨"GlacierMail$Way", "step", "()V"⟩, ⟨"GlacierMail$Way", "deepAfter", "()I"⟩, ⟨"GlacierMail$Ice", "heatIn", "(I)I"⟩, ⟨"GlacierMail$Ice", "flowAt", "(III)I"⟩, ⟨"GlacierMail$Ice", "speedAt", "(II)I"⟩, ⟨"GlacierMail$Ice", "recalledFlow", "(I)I"⟩, ⟨"java/util/Arrays", "fill", "([JJ)V"⟩, ⟨"GlacierMail$Ice", "setFacts", "(IIII)V"⟩, ⟨"GlacierMail$Law", "faster", "([I)I"⟩, ⟨"GlacierMail$Law", "holds", "(II[I)Z"⟩, ⟨"GlacierMail$Ice", "keepFlow", "(II)V"⟩, ⟨"GlacierMail$Way", "takeFloods", "()V"⟩, ⟨"GlacierMail$Ice", "floodsIn", "(I)I"⟩, ⟨"GlacierMail$Rows", "put", "(III)V"⟩, ⟨"GlacierMail", "market", "(Z)I"⟩, ⟨"GlacierMail", "outIn", "(IZ)I"⟩, ⟨"GlacierMail", "poles", "()I"⟩, ⟨"java/lang/Integer", "bitCount", "(I)I"⟩, ⟨"GlacierMail", "allToldApart", "(I)Z"⟩, ⟨"GlacierMail", "toldApart", "(III)Z"⟩, ⟨"GlacierMail", "order", "(I)I"⟩, ⟨"GlacierMail", "outAheadOf", "(I)I"⟩, ⟨"GlacierMail", "undo", "()Z"⟩, ⟨"GlacierMail$History", "takeBack", "(LGlacierMail$State;)Z"⟩, ⟨"GlacierMail$History", "at", "(I)LGlacierMail$State;"⟩, ⟨"GlacierMail$State", "copyFrom", "(LGlacierMail$State;)V"⟩, ⟨"GlacierMail$Rows", "copyFrom", "(LGlacierMail$Rows;)V"⟩, ⟨"GlacierMail", "image", "()V"⟩, ⟨"GlacierMail", "back", "()Z"⟩, ⟨"GlacierMail", "forgetWays", "()V"⟩, ⟨"GlacierMail$History", "forget", "()V"⟩, ⟨"GlacierMail", "count", "(I)I"⟩, ⟨"GlacierMail", "lawLines", "()I"⟩, ⟨"GlacierMail", "waiting", "(I)I"⟩, ⟨"GlacierMail", "waits", "(I)Z"⟩, ⟨"GlacierMail", "isOutBy", "(II)Z"⟩, ⟨"GlacierMail", "inIceNow", "()I"⟩, ⟨"GlacierMail$History", "size", "()I"⟩, ⟨"GlacierMailLaw", "valley", "(LGlacierMail;[J)I"⟩, ⟨"GlacierMail", "valley", "()I"⟩, ⟨"GlacierMail$TextReader", "readText", "(I)I"⟩, ⟨"GlacierMail$LawReader", "clear", "()V"⟩, ⟨"GlacierMail$ValleyReader", "clear", "()V"⟩, ⟨"GlacierMail$Words", "start", "(I)V"⟩, ⟨"GlacierMail$Words", "next", "()V"⟩, ⟨"GlacierMail$Words", "isSmall", "(B)Z"⟩, ⟨"GlacierMail$Words", "isDigit", "(B)Z"⟩, ⟨"GlacierMail$LawReader", "readLine", "()Z"⟩, ⟨"GlacierMail$LawReader", "readKind", "()I"⟩, ⟨"GlacierMail$Words", "isWord", "(Ljava/lang/String;)Z"⟩, ⟨"java/lang/String", "length", "()I"⟩, ⟨"java/lang/String", "coder", "()B"⟩, ⟨"java/lang/String", "charAt", "(I)C"⟩, ⟨"java/lang/String", "isLatin1", "()Z"⟩, ⟨"java/lang/StringLatin1", "charAt", "([BI)C"⟩, ⟨"java/lang/String", "checkIndex", "(II)V"⟩, ⟨"jdk/internal/util/Preconditions", "checkIndex", "(IILjava/util/function/BiFunction;)I"⟩, ⟨"java/lang/StringUTF16", "charAt", "([BI)C"⟩, ⟨"java/lang/StringUTF16", "checkIndex", "(I[B)V"⟩, ⟨"java/lang/StringUTF16", "length", "([B)I"⟩, ⟨"java/lang/StringUTF16", "getChar", "([BI)C"⟩, ⟨"GlacierMail$Words", "refuse", "()Z"⟩, ⟨"GlacierMail$Words", "needNumber", "(II)I"⟩, ⟨"GlacierMail$Words", "takeWord", "(Ljava/lang/String;)Z"⟩, ⟨"GlacierMail$LawReader", "readCondition", "(I)Z"⟩, ⟨"GlacierMail$LawReader", "readAtom", "(I)Z"⟩, ⟨"GlacierMail$Words", "needSign", "(C)Z"⟩, ⟨"GlacierMail$LawReader", "put", "(I)V"⟩, ⟨"GlacierMail$LawReader", "readSum", "()Z"⟩, ⟨"GlacierMail$LawReader", "factCode", "()I"⟩, ⟨"GlacierMail$Rows", "add", "()I"⟩, ⟨"GlacierMail$ValleyReader", "readLine", "()Z"⟩, ⟨"GlacierMail$ValleyReader", "readLanes", "()Z"⟩, ⟨"GlacierMail$State", "isEmpty", "()Z"⟩, ⟨"GlacierMail$ValleyReader", "readLast", "()Z"⟩, ⟨"GlacierMail$ValleyReader", "readSection", "()Z"⟩, ⟨"GlacierMail$Rows", "isFull", "()Z"⟩, ⟨"GlacierMail$ValleyReader", "readSpeeds", "(LGlacierMail$Rows;II)Z"⟩, ⟨"GlacierMail$ValleyReader", "readSnow", "()Z"⟩, ⟨"GlacierMail$ValleyReader", "readRow", "()I"⟩, ⟨"GlacierMail$Words", "needWord", "(Ljava/lang/String;)Z"⟩, ⟨"GlacierMail$ValleyReader", "readStripe", "()Z"⟩, ⟨"GlacierMail$ValleyReader", "readSeed", "()Z"⟩, ⟨"GlacierMail$ValleyReader", "readFlood", "()Z"⟩, ⟨"GlacierMail$ValleyReader", "readPerson", "()Z"⟩, ⟨"GlacierMail$ValleyReader", "readLane", "()I"⟩, ⟨"GlacierMail$ValleyReader", "readRock", "()Z"⟩, ⟨"GlacierMail$State", "throwIn", "(IIII)I"⟩, ⟨"GlacierMail$ValleyReader", "readTable", "()Z"⟩, ⟨"GlacierMail$Words", "wrong", "()I"⟩, ⟨"GlacierMailLaw", "law", "(LGlacierMail;[J)I"⟩, ⟨"GlacierMail", "law", "()I"⟩, ⟨"GlacierMail$LawReader", "makeLaw", "()LGlacierMail$Law;"⟩, ⟨"java/util/Arrays", "copyOf", "([II)[I"⟩, ⟨"GlacierMail$Law", "<init>", "(LGlacierMail$Rows;[I)V"⟩, ⟨"GlacierMailLaw", "heat", "(LGlacierMail;I[J)I"⟩, ⟨"GlacierMail", "heat", "(I)I"⟩, ⟨"GlacierMail", "needYear", "(I)V"⟩, ⟨"GlacierMailLaw", "speed", "(LGlacierMail;II[J)I"⟩, ⟨"GlacierMail", "speed", "(II)I"⟩, ⟨"GlacierMail", "needLane", "(I)V"⟩, ⟨"GlacierMail", "need", "(II)V"⟩, ⟨"GlacierMail", "needRow", "(I)V"⟩, ⟨"GlacierMailLaw", "flow", "(LGlacierMail;III[J)I"⟩, ⟨"GlacierMail", "flow", "(III)I"⟩, ⟨"GlacierMailLaw", "person", "(LGlacierMail;II[J)I"⟩, ⟨"GlacierMail", "person", "(II)I"⟩, ⟨"GlacierMail", "needPerson", "(I)V"⟩, ⟨"GlacierMail", "lettersWith", "(II)I"⟩, ⟨"GlacierMailLaw", "letter", "(LGlacierMail;II[J)I"⟩, ⟨"GlacierMail", "letter", "(II)I"⟩, ⟨"GlacierMail", "needLetter", "(I)V"⟩, ⟨"GlacierMail", "outOf", "(I)I"⟩, ⟨"GlacierMail", "firstBare", "(I)I"⟩, ⟨"GlacierMailLaw", "where", "(LGlacierMail;II[J)I"⟩, ⟨"GlacierMail", "where", "(II)I"⟩, ⟨"GlacierMail$Way", "goOnTo", "(I)V"⟩, ⟨"GlacierMailLaw", "deep", "(LGlacierMail;II[J)I"⟩, ⟨"GlacierMail", "deep", "(II)I"⟩, ⟨"GlacierMailLaw", "post", "(LGlacierMail;II[J)I"⟩, ⟨"GlacierMail", "post", "(II)I"⟩, ⟨"GlacierMail", "needUnlike", "(II)V"⟩, ⟨"GlacierMail$History", "remember", "(LGlacierMail$State;)V"⟩, ⟨"GlacierMailLaw", "watch", "(LGlacierMail;II[J)I"⟩, ⟨"GlacierMail", "watch", "(II)I"⟩, ⟨"GlacierMailLaw", "open", "(LGlacierMail;I[J)I"⟩, ⟨"GlacierMail", "open", "(I)I"⟩, ⟨"GlacierMail$State", "openLetter", "(II)V"⟩, ⟨"GlacierMailLaw", "years", "(LGlacierMail;I[J)I"⟩, ⟨"GlacierMail", "years", "(I)I"⟩, ⟨"GlacierMail", "oneYearMore", "()I"⟩, ⟨"GlacierMail", "openerOf", "(I)I"⟩, ⟨"GlacierMail$Ice", "mayOpen", "(IIII)Z"⟩, ⟨"GlacierMail$Law", "letsOpen", "([I)Z"⟩, ⟨"GlacierMailLaw", "throwsFor", "(LGlacierMail;IIII[J)I"⟩, ⟨"GlacierMail", "throwsFor", "(IIII)I"⟩, ⟨"GlacierMailLaw", "latest", "(LGlacierMail;II[J)I"⟩, ⟨"GlacierMail", "latest", "(II)I"⟩, ⟨"GlacierMail$Way", "startHut", "(II)V"⟩, ⟨"GlacierMailLaw", "hut", "(LGlacierMail;II[J)I"⟩, ⟨"GlacierMail", "hut", "(II)I"⟩, ⟨"GlacierMailLaw", "without", "(LGlacierMail;II[J)I"⟩, ⟨"GlacierMail", "without", "(II)I"⟩, ⟨"GlacierMail$Way", "leaveOut", "(I)V"⟩, ⟨"GlacierMailLaw", "moved", "(LGlacierMail;I[J)I"⟩, ⟨"GlacierMail", "moved", "(I)I"⟩, ⟨"GlacierMailLaw", "passes", "(LGlacierMail;I[J)I"⟩, ⟨"GlacierMail", "passes", "(I)I"⟩, ⟨"GlacierMail", "sameLane", "(II)Z"⟩, ⟨"GlacierMail", "passesBy", "(II)Z"⟩, ⟨"GlacierMail", "startBoth", "(III)I"⟩, ⟨"GlacierMail", "bothInIce", "()Z"⟩, ⟨"GlacierMail", "stepBoth", "()V"⟩, ⟨"GlacierMailLaw", "writers", "(LGlacierMail;III[J)I"⟩, ⟨"GlacierMail", "writers", "(III)I"⟩, ⟨"GlacierMail", "needFind", "(II)V"⟩, ⟨"GlacierMail", "latestWriting", "(IIII)I"⟩, ⟨"GlacierMailLaw", "wrote", "(LGlacierMail;IIII[J)I"⟩, ⟨"GlacierMail", "wrote", "(IIII)I"⟩, ⟨"GlacierMailLaw", "table", "(LGlacierMail;II[J)I"⟩, ⟨"GlacierMail", "table", "(II)I"⟩, ⟨"GlacierMail", "needTable", "(I)V"⟩, ⟨"GlacierMailLaw", "apart", "(LGlacierMail;III[J)I"⟩, ⟨"GlacierMail", "apart", "(III)Z"⟩, ⟨"GlacierMailLaw", "fit", "(LGlacierMail;[J)I"⟩, ⟨"GlacierMail", "fit", "()I"⟩, ⟨"GlacierMail", "areReadings", "(I)Z"⟩, ⟨"GlacierMail", "fitsReadings", "(II)Z"⟩, ⟨"GlacierMailLaw", "soonest", "(LGlacierMail;IIZ[J)I"⟩, ⟨"GlacierMail", "soonest", "(IIZ)I"⟩, ⟨"GlacierMail$Answers", "spread", "(III)V"⟩, ⟨"GlacierMail$Answers", "throwAgain", "(IIII)V"⟩, ⟨"GlacierMail$Answers", "firstYear", "(I)I"⟩, ⟨"GlacierMail$Answers", "fewestThrows", "(II)I"⟩, ⟨"GlacierMailLaw", "chain", "(LGlacierMail;III[J)I"⟩, ⟨"GlacierMail", "chain", "(III)I"⟩, ⟨"GlacierMail$Answers", "holder", "(III)I"⟩, ⟨"GlacierMail$Answers", "throwAhead", "(III)I"⟩, ⟨"GlacierMailLaw", "reached", "(LGlacierMail;II[J)I"⟩, ⟨"GlacierMail", "reached", "(II)I"⟩, ⟨"GlacierMailLaw", "thieves", "(LGlacierMail;IZ[J)I"⟩, ⟨"GlacierMail", "thieves", "(IZ)I"⟩, ⟨"GlacierMail", "needThiefYears", "(I)V"⟩, ⟨"GlacierMail", "reckonCame", "(I)V"⟩, ⟨"GlacierMail", "bestNext", "(II)I"⟩, ⟨"GlacierMailLaw", "watchman", "(LGlacierMail;IZ[J)I"⟩, ⟨"GlacierMail", "watchman", "(IZ)I"⟩, ⟨"GlacierMail", "mostBeside", "(II)I"⟩, ⟨"GlacierMailLaw", "meeting", "(LGlacierMail;II[J)I"⟩, ⟨"GlacierMail", "meeting", "(II)I"⟩, ⟨"GlacierMailLaw", "outs", "(LGlacierMail;I[J)I"⟩, ⟨"GlacierMail", "outs", "(I)I"⟩, ⟨"GlacierMailLaw", "streams", "(LGlacierMail;IZ[J)I"⟩, ⟨"GlacierMail", "streams", "(IZ)I"⟩, ⟨"GlacierMailLaw", "range", "(LGlacierMail;II[J)I"⟩, ⟨"GlacierMail", "range", "(II)I"⟩, ⟨"GlacierMailLaw", "swiftest", "(LGlacierMail;II[J)I"⟩, ⟨"GlacierMail", "swiftest", "(II)I"⟩, ⟨"GlacierMailLaw", "bare", "(LGlacierMail;I[J)I"⟩, ⟨"GlacierMail", "bare", "(I)I"⟩, ⟨"GlacierMailLaw", "log", "(LGlacierMail;II[J)I"⟩, ⟨"GlacierMail", "log", "(II)I"⟩, ⟨"GlacierMailModel", "<init>", "()V"⟩, ⟨"GlacierMailModel", "warms", "()V"⟩, ⟨"GlacierMailModel", "image", "()V"⟩, ⟨"GlacierMailModel", "back", "()Z"⟩, ⟨"GlacierMailModel", "undo", "()Z"⟩, ⟨"GlacierMailModel", "feed", "(IIIII)I"⟩, ⟨"GlacierMailModel", "end", "(I)Z"⟩, ⟨"GlacierMailModel", "fault", "()I"⟩, ⟨"GlacierMailModel", "valley", "()I"⟩, ⟨"GlacierMailModel", "readAll", "(Z)I"⟩, ⟨"GlacierMailModel", "uses", "()V"⟩, ⟨"GlacierMailModel", "blanks", "()V"⟩, ⟨"GlacierMailModel", "isAt", "(II)Z"⟩, ⟨"GlacierMailModel", "readLine", "(ZI)Z"⟩, ⟨"GlacierMailModel", "letterRow", "()V"⟩, ⟨"GlacierMailModel", "readValleyLine", "()Z"⟩, ⟨"GlacierMailModel", "isWord", "(Ljava/lang/String;)Z"⟩, ⟨"GlacierMailModel", "readLanes", "()Z"⟩, ⟨"GlacierMailModel", "isEmpty", "()Z"⟩, ⟨"GlacierMailModel", "people", "()I"⟩, ⟨"GlacierMailModel", "letters", "()I"⟩, ⟨"GlacierMailModel", "number", "(II)I"⟩, ⟨"GlacierMailModel", "figures", "(III)I"⟩, ⟨"GlacierMailModel", "readLast", "()Z"⟩, ⟨"GlacierMailModel", "readSection", "()Z"⟩, ⟨"GlacierMailModel", "lip", "()I"⟩, ⟨"GlacierMailModel", "readSpeeds", "(I)Z"⟩, ⟨"GlacierMailModel", "lanes", "()I"⟩, ⟨"GlacierMailModel", "readSnow", "()Z"⟩, ⟨"GlacierMailModel", "rowTold", "()I"⟩, ⟨"GlacierMailModel", "after", "(Ljava/lang/String;II)I"⟩, ⟨"GlacierMailModel", "readFlood", "()Z"⟩, ⟨"GlacierMailModel", "now", "()I"⟩, ⟨"GlacierMailModel", "readPerson", "()Z"⟩, ⟨"GlacierMailModel", "laneTold", "()I"⟩, ⟨"GlacierMailModel", "isNext", "(Ljava/lang/String;)Z"⟩, ⟨"GlacierMailModel", "readRock", "()Z"⟩, ⟨"GlacierMailModel", "throwsIn", "(IIII)V"⟩, ⟨"GlacierMailModel", "setsLetter", "(III)V"⟩, ⟨"GlacierMailModel", "readTable", "()Z"⟩, ⟨"GlacierMailModel", "readLawLine", "(I)Z"⟩, ⟨"GlacierMailModel", "readCond", "()Z"⟩, ⟨"GlacierMailModel", "readAllOf", "()Z"⟩, ⟨"GlacierMailModel", "readAtom", "()Z"⟩, ⟨"GlacierMailModel", "sign", "(I)Z"⟩, ⟨"GlacierMailModel", "emits", "(II)V"⟩, ⟨"GlacierMailModel", "readSum", "()Z"⟩, ⟨"GlacierMailModel", "readPart", "()Z"⟩, ⟨"GlacierMailModel", "throwsIf", "(ZI)Z"⟩, ⟨"GlacierMailModel", "law", "()I"⟩, ⟨"GlacierMailModel", "heat", "(I)I"⟩, ⟨"GlacierMailModel", "noYear", "(I)Z"⟩, ⟨"GlacierMailModel", "in", "(III)Z"⟩, ⟨"GlacierMailModel", "speed", "(II)I"⟩, ⟨"GlacierMailModel", "noLane", "(I)Z"⟩, ⟨"GlacierMailModel", "noRow", "(I)Z"⟩, ⟨"GlacierMailModel", "speedAt", "(II)I"⟩, ⟨"GlacierMailModel", "flow", "(III)I"⟩, ⟨"GlacierMailModel", "flowAt", "(III)I"⟩, ⟨"GlacierMailModel", "turnsTo", "(I)V"⟩, ⟨"GlacierMailModel", "sumOf", "(I)I"⟩, ⟨"GlacierMailModel", "holdsLine", "(I)Z"⟩, ⟨"GlacierMailModel", "factOf", "(II)I"⟩, ⟨"GlacierMailModel", "person", "(II)I"⟩, ⟨"GlacierMailModel", "noPerson", "(I)Z"⟩, ⟨"GlacierMailModel", "of", "(II)I"⟩, ⟨"GlacierMailModel", "countOf", "(II)I"⟩, ⟨"GlacierMailModel", "ofLetter", "(II)I"⟩, ⟨"GlacierMailModel", "isWaiting", "(I)Z"⟩, ⟨"GlacierMailModel", "isRock", "(I)Z"⟩, ⟨"GlacierMailModel", "outOf", "(I)I"⟩, ⟨"GlacierMailModel", "runsLetter", "(II)V"⟩, ⟨"GlacierMailModel", "runs", "(IIIZI)V"⟩, ⟨"GlacierMailModel", "floods", "(III)I"⟩, ⟨"GlacierMailModel", "letter", "(II)I"⟩, ⟨"GlacierMailModel", "noLetter", "(I)Z"⟩, ⟨"GlacierMailModel", "bareFrom", "(I)I"⟩, ⟨"GlacierMailModel", "isBare", "(II)Z"⟩, ⟨"GlacierMailModel", "isInIce", "(I)Z"⟩, ⟨"GlacierMailModel", "where", "(II)I"⟩, ⟨"GlacierMailModel", "deep", "(II)I"⟩, ⟨"GlacierMailModel", "post", "(II)I"⟩, ⟨"GlacierMailModel", "remembers", "()V"⟩, ⟨"GlacierMailModel", "watch", "(II)I"⟩, ⟨"GlacierMailModel", "open", "(I)I"⟩, ⟨"GlacierMailModel", "opens", "(II)V"⟩, ⟨"GlacierMailModel", "years", "(I)I"⟩, ⟨"GlacierMailModel", "year", "()I"⟩, ⟨"GlacierMailModel", "opener", "(I)I"⟩, ⟨"GlacierMailModel", "mayOpen", "(II)Z"⟩, ⟨"GlacierMailModel", "throwsFor", "(IIII)I"⟩, ⟨"GlacierMailModel", "outFrom", "(III)I"⟩, ⟨"GlacierMailModel", "latest", "(II)I"⟩, ⟨"GlacierMailModel", "hut", "(II)I"⟩, ⟨"GlacierMailModel", "without", "(II)I"⟩, ⟨"GlacierMailModel", "moved", "(I)I"⟩, ⟨"GlacierMailModel", "lost", "()I"⟩, ⟨"GlacierMailModel", "market", "(Z)I"⟩, ⟨"GlacierMailModel", "outsAll", "()V"⟩, ⟨"GlacierMailModel", "outsIn", "(IIZ)I"⟩, ⟨"GlacierMailModel", "passes", "(I)I"⟩, ⟨"GlacierMailModel", "keepsRows", "()V"⟩, ⟨"GlacierMailModel", "isPassing", "(I)Z"⟩, ⟨"GlacierMailModel", "isOtherInIce", "(I)Z"⟩, ⟨"GlacierMailModel", "writers", "(III)I"⟩, ⟨"GlacierMailModel", "wroteIn", "(IIII)I"⟩, ⟨"GlacierMailModel", "wrote", "(IIII)I"⟩, ⟨"GlacierMailModel", "table", "(II)I"⟩, ⟨"GlacierMailModel", "noTable", "(I)Z"⟩, ⟨"GlacierMailModel", "ofTable", "(II)I"⟩, ⟨"GlacierMailModel", "apart", "(III)Z"⟩, ⟨"GlacierMailModel", "areApart", "(III)Z"⟩, ⟨"GlacierMailModel", "has", "(II)Z"⟩, ⟨"GlacierMailModel", "poles", "()I"⟩, ⟨"GlacierMailModel", "fit", "()I"⟩, ⟨"GlacierMailModel", "soonest", "(IIZ)I"⟩, ⟨"GlacierMailModel", "answers", "(I)V"⟩, ⟨"GlacierMailModel", "at", "(II)I"⟩, ⟨"GlacierMailModel", "isWatching", "(II)Z"⟩, ⟨"GlacierMailModel", "hasIn", "(I)I"⟩, ⟨"GlacierMailModel", "chain", "(III)I"⟩, ⟨"GlacierMailModel", "thrower", "(III)I"⟩, ⟨"GlacierMailModel", "reached", "(II)I"⟩, ⟨"GlacierMailModel", "thieves", "(IZ)I"⟩, ⟨"GlacierMailModel", "steals", "(I)V"⟩, ⟨"GlacierMailModel", "watchman", "(IZ)I"⟩, ⟨"GlacierMailModel", "meeting", "(II)I"⟩, ⟨"GlacierMailModel", "outs", "(I)I"⟩, ⟨"GlacierMailModel", "order", "(I)I"⟩, ⟨"GlacierMailModel", "streams", "(IZ)I"⟩, ⟨"GlacierMailModel", "range", "(II)I"⟩, ⟨"GlacierMailModel", "swiftest", "(II)I"⟩, ⟨"GlacierMailModel", "bare", "(I)I"⟩, ⟨"GlacierMailModel", "log", "(II)I"⟩, ⟨"GlacierMailModel", "count", "(I)I"⟩, ⟨"GlacierMailLaw", "law", "([I)Z"⟩]
def gm_mn (i : Nat) : MethodName := (gm_mnl[i]?).getD ⟨"", "", ""⟩
def gm_bcl : List ByteArray := [prog_1_method_1_code, prog_8_method_1_code, prog_7_method_1_code, prog_3_method_1_code, prog_4_method_1_code, prog_4_method_2_code, prog_4_method_3_code, prog_4_method_4_code, prog_34_method_103_code, prog_7_method_2_code, prog_7_method_6_code, prog_24_method_65_code, prog_4_method_5_code, prog_11_method_1_code, prog_2_method_1_code, prog_10_method_1_code, prog_9_method_1_code, prog_12_method_1_code, prog_6_method_1_code, prog_1_method_2_code, prog_1_method_3_code, prog_1_method_4_code, prog_1_method_8_code, prog_1_method_27_code, prog_1_method_65_code, prog_7_method_5_code, prog_24_method_69_code, prog_11_method_3_code, prog_8_method_4_code, prog_11_method_2_code, prog_11_method_11_code, prog_11_method_6_code, prog_11_method_7_code, prog_11_method_8_code, prog_4_method_6_code, prog_4_method_9_code, prog_4_method_8_code, prog_4_method_10_code, prog_34_method_101_code, prog_4_method_12_code, prog_5_method_2_code, prog_5_method_4_code, prog_4_method_11_code, prog_11_method_9_code, prog_4_method_7_code, prog_7_method_7_code, prog_1_method_28_code, prog_1_method_66_code, prog_1_method_37_code, prog_23_method_49_code, prog_1_method_38_code, prog_1_method_36_code, prog_1_method_51_code, prog_1_method_52_code, prog_1_method_58_code, prog_3_method_5_code, prog_3_method_3_code, prog_8_method_2_code, prog_7_method_8_code, prog_1_method_59_code, prog_1_method_60_code, prog_1_method_7_code, prog_3_method_6_code, prog_1_method_61_code, prog_1_method_62_code, prog_1_method_70_code, prog_1_method_69_code, prog_1_method_68_code, prog_1_method_71_code, prog_3_method_2_code, method_3_code, prog_1_method_5_code, prog_9_method_4_code, prog_6_method_2_code, prog_10_method_2_code, prog_12_method_2_code, prog_12_method_4_code, prog_12_method_5_code, prog_12_method_6_code, prog_6_method_4_code, prog_6_method_5_code, prog_12_method_7_code, prog_26_method_54_code, prog_26_method_152_code, prog_26_method_56_code, prog_26_method_154_code, prog_27_method_2_code, prog_26_method_155_code, prog_36_method_11_code, prog_28_method_83_code, prog_28_method_91_code, prog_28_method_6_code, prog_28_method_5_code, prog_12_method_12_code, prog_12_method_11_code, prog_12_method_8_code, prog_6_method_7_code, prog_6_method_8_code, prog_12_method_10_code, prog_6_method_6_code, prog_6_method_9_code, prog_6_method_10_code, prog_7_method_4_code, prog_10_method_3_code, prog_10_method_4_code, prog_8_method_3_code, prog_10_method_5_code, prog_10_method_6_code, prog_7_method_3_code, prog_10_method_7_code, prog_10_method_8_code, prog_10_method_16_code, prog_12_method_9_code, prog_10_method_9_code, prog_10_method_10_code, prog_10_method_11_code, prog_10_method_12_code, prog_10_method_15_code, prog_10_method_13_code, prog_8_method_5_code, prog_10_method_14_code, prog_12_method_3_code, method_4_code, prog_1_method_6_code, prog_6_method_3_code, prog_34_method_123_code, prog_5_method_1_code, method_5_code, prog_1_method_9_code, prog_1_method_83_code, method_6_code, prog_1_method_10_code, prog_1_method_78_code, prog_1_method_77_code, prog_1_method_79_code, method_7_code, prog_1_method_11_code, method_8_code, prog_1_method_12_code, prog_1_method_80_code, prog_1_method_72_code, method_9_code, prog_1_method_13_code, prog_1_method_81_code, prog_1_method_63_code, prog_1_method_64_code, method_10_code, prog_1_method_14_code, prog_11_method_10_code, method_11_code, prog_1_method_15_code, method_12_code, prog_1_method_16_code, prog_1_method_85_code, prog_3_method_4_code, method_13_code, prog_1_method_17_code, method_14_code, prog_1_method_18_code, prog_8_method_6_code, method_15_code, prog_1_method_19_code, prog_1_method_20_code, prog_1_method_21_code, prog_4_method_13_code, prog_5_method_3_code, method_16_code, prog_1_method_22_code, method_17_code, prog_1_method_23_code, prog_11_method_4_code, method_18_code, prog_1_method_24_code, method_19_code, prog_1_method_25_code, prog_11_method_5_code, method_20_code, prog_1_method_26_code, method_21_code, prog_1_method_29_code, prog_1_method_73_code, prog_1_method_30_code, prog_1_method_74_code, prog_1_method_76_code, prog_1_method_75_code, method_22_code, prog_1_method_31_code, prog_1_method_84_code, prog_1_method_33_code, method_23_code, prog_1_method_32_code, method_24_code, prog_1_method_34_code, prog_1_method_82_code, method_25_code, prog_1_method_35_code, method_26_code, prog_1_method_39_code, prog_1_method_40_code, prog_1_method_41_code, method_27_code, prog_1_method_42_code, prog_2_method_2_code, prog_2_method_3_code, prog_2_method_4_code, prog_2_method_5_code, method_28_code, prog_1_method_43_code, prog_2_method_6_code, prog_2_method_7_code, method_29_code, prog_1_method_44_code, method_30_code, prog_1_method_45_code, prog_1_method_86_code, prog_1_method_67_code, prog_1_method_46_code, method_31_code, prog_1_method_47_code, prog_1_method_48_code, method_32_code, prog_1_method_49_code, method_33_code, prog_1_method_50_code, method_34_code, prog_1_method_53_code, method_35_code, prog_1_method_54_code, method_36_code, prog_1_method_55_code, method_37_code, prog_1_method_56_code, method_38_code, prog_1_method_57_code, prog_14_method_5_code, prog_14_method_65_code, prog_14_method_6_code, prog_14_method_7_code, prog_14_method_9_code, prog_14_method_24_code, prog_14_method_25_code, prog_14_method_35_code, prog_14_method_60_code, prog_14_method_59_code, prog_14_method_36_code, prog_14_method_27_code, prog_14_method_26_code, prog_14_method_58_code, prog_14_method_28_code, prog_14_method_50_code, prog_14_method_29_code, prog_14_method_40_code, prog_14_method_39_code, prog_14_method_12_code, prog_14_method_13_code, prog_14_method_33_code, prog_14_method_32_code, prog_14_method_41_code, prog_14_method_43_code, prog_14_method_11_code, prog_14_method_42_code, prog_14_method_10_code, prog_14_method_44_code, prog_14_method_38_code, prog_14_method_34_code, prog_14_method_45_code, prog_14_method_14_code, prog_14_method_46_code, prog_14_method_37_code, prog_14_method_30_code, prog_14_method_48_code, prog_14_method_47_code, prog_14_method_17_code, prog_14_method_49_code, prog_14_method_57_code, prog_14_method_56_code, prog_14_method_55_code, prog_14_method_54_code, prog_14_method_31_code, prog_14_method_51_code, prog_14_method_53_code, prog_14_method_52_code, prog_14_method_2_code, prog_14_method_61_code, prog_14_method_69_code, prog_14_method_23_code, prog_14_method_3_code, prog_14_method_70_code, prog_14_method_19_code, prog_14_method_20_code, prog_14_method_67_code, prog_14_method_71_code, prog_14_method_68_code, prog_14_method_66_code, prog_14_method_64_code, prog_14_method_63_code, prog_14_method_62_code, prog_14_method_81_code, prog_14_method_21_code, prog_14_method_15_code, prog_14_method_80_code, prog_14_method_16_code, prog_14_method_79_code, prog_14_method_18_code, prog_14_method_75_code, prog_14_method_74_code, prog_14_method_73_code, prog_14_method_72_code, prog_14_method_83_code, prog_14_method_22_code, prog_14_method_82_code, prog_14_method_78_code, prog_14_method_77_code, prog_14_method_84_code, prog_14_method_85_code, prog_14_method_86_code, prog_14_method_8_code, prog_14_method_87_code, prog_14_method_89_code, prog_14_method_88_code, prog_14_method_93_code, prog_14_method_92_code, prog_14_method_91_code, prog_14_method_90_code, prog_14_method_94_code, prog_14_method_76_code, prog_14_method_95_code, prog_14_method_96_code, prog_14_method_97_code, prog_14_method_98_code, prog_14_method_99_code, prog_14_method_102_code, prog_14_method_100_code, prog_14_method_101_code, prog_14_method_106_code, prog_14_method_103_code, prog_14_method_105_code, prog_14_method_104_code, prog_14_method_108_code, prog_14_method_107_code, prog_14_method_109_code, prog_14_method_112_code, prog_14_method_111_code, prog_14_method_110_code, prog_14_method_114_code, prog_14_method_113_code, prog_14_method_4_code, prog_14_method_115_code, prog_14_method_116_code, prog_14_method_121_code, prog_14_method_119_code, prog_14_method_117_code, prog_14_method_118_code, prog_14_method_120_code, prog_14_method_123_code, prog_14_method_122_code, prog_14_method_124_code, prog_14_method_126_code, prog_14_method_125_code, prog_14_method_127_code, prog_14_method_128_code, prog_14_method_129_code, prog_14_method_130_code, prog_14_method_131_code, prog_14_method_132_code, prog_14_method_133_code, prog_14_method_134_code, prog_14_method_135_code, prog_14_method_136_code, code]
def gm_bc (i : Nat) : ByteArray := (gm_bcl[i]?).getD ⟨#[]⟩
def gm_ml (i : Nat) : Nat := (([1, 1, 3, 2, 2, 1, 3, 6, 4, 1, 3, 2, 3, 3, 3, 3, 4, 3, 2, 6, 3, 2, 1, 3, 2, 2, 2, 3, 2, 5, 3, 1, 2, 1, 2, 7, 4, 3, 5, 5, 5, 14, 6, 5, 2, 4, 7, 5, 4, 1, 4, 5, 3, 7, 1, 3, 2, 2, 2, 1, 1, 1, 1, 2, 1, 5, 3, 3, 3, 1, 3, 1, 3, 1, 1, 2, 2, 1, 1, 5, 1, 3, 1, 1, 2, 1, 2, 2, 3, 2, 2, 1, 2, 1, 4, 3, 4, 4, 2, 2, 3, 1, 1, 1, 2, 1, 2, 5, 1, 6, 3, 1, 2, 2, 2, 5, 5, 1, 3, 6, 1, 1, 3, 1, 1, 3, 3, 4, 2, 2, 5, 3, 2, 3, 2, 6, 4, 5, 3, 2, 5, 5, 3, 2, 2, 3, 5, 3, 3, 5, 3, 5, 3, 3, 3, 5, 4, 4, 2, 4, 4, 4, 4, 6, 5, 4, 7, 9, 5, 4, 3, 5, 5, 5, 3, 2, 4, 2, 4, 4, 3, 5, 5, 1, 1, 6, 6, 3, 6, 7, 5, 5, 3, 2, 6, 4, 3, 4, 5, 4, 6, 5, 7, 10, 3, 3, 6, 4, 9, 7, 5, 5, 5, 5, 2, 5, 4, 5, 5, 7, 5, 5, 4, 2, 5, 6, 5, 4, 5, 7, 4, 4, 5, 3, 1, 3, 2, 2, 2, 7, 2, 1, 3, 3, 1, 1, 3, 3, 1, 3, 4, 2, 1, 1, 1, 3, 5, 2, 4, 1, 4, 1, 3, 1, 4, 5, 1, 5, 1, 2, 3, 6, 4, 2, 3, 1, 1, 3, 2, 3, 1, 2, 3, 3, 2, 1, 3, 3, 2, 2, 5, 4, 6, 3, 4, 9, 3, 3, 2, 3, 6, 3, 3, 2, 2, 3, 9, 7, 4, 2, 3, 3, 2, 3, 3, 3, 2, 4, 2, 4, 4, 4, 4, 3, 9, 4, 5, 5, 3, 2, 3, 6, 2, 6, 4, 2, 3, 2, 6, 6, 5, 3, 2, 3, 4, 6, 2, 6, 5, 5, 7, 2, 3, 3, 7, 6, 6, 5, 5, 8, 4, 2, 5, 5, 4, 7, 4, 3, 5, 7] : List Nat)[i]?).getD 0
def gm_ow (i : Nat) : Nat := (([0, 1, 2, 3, 4, 4, 4, 4, 5, 2, 2, 6, 4, 7, 8, 9, 10, 11, 12, 0, 0, 0, 0, 0, 0, 2, 6, 7, 1, 7, 7, 7, 7, 7, 4, 4, 4, 4, 5, 4, 13, 13, 4, 7, 4, 2, 0, 0, 0, 14, 0, 0, 0, 0, 0, 3, 3, 1, 2, 0, 0, 0, 3, 0, 0, 0, 0, 0, 0, 3, 15, 0, 10, 12, 9, 11, 11, 11, 11, 12, 12, 11, 16, 16, 16, 16, 17, 16, 18, 19, 19, 19, 19, 11, 11, 11, 12, 12, 11, 12, 12, 12, 2, 9, 9, 1, 9, 9, 2, 9, 9, 9, 11, 9, 9, 9, 9, 9, 9, 1, 9, 11, 15, 0, 12, 5, 13, 15, 0, 0, 15, 0, 0, 0, 0, 15, 0, 15, 0, 0, 0, 15, 0, 0, 0, 0, 15, 0, 7, 15, 0, 15, 0, 0, 3, 15, 0, 15, 0, 1, 15, 0, 0, 0, 4, 13, 15, 0, 15, 0, 7, 15, 0, 15, 0, 7, 15, 0, 15, 0, 0, 0, 0, 0, 0, 15, 0, 0, 0, 15, 0, 15, 0, 0, 15, 0, 15, 0, 0, 0, 15, 0, 8, 8, 8, 8, 15, 0, 8, 8, 15, 0, 15, 0, 0, 0, 0, 15, 0, 0, 15, 0, 15, 0, 15, 0, 15, 0, 15, 0, 15, 0, 15, 0, 20, 20, 20, 20, 20, 20, 20, 20, 20, 20, 20, 20, 20, 20, 20, 20, 20, 20, 20, 20, 20, 20, 20, 20, 20, 20, 20, 20, 20, 20, 20, 20, 20, 20, 20, 20, 20, 20, 20, 20, 20, 20, 20, 20, 20, 20, 20, 20, 20, 20, 20, 20, 20, 20, 20, 20, 20, 20, 20, 20, 20, 20, 20, 20, 20, 20, 20, 20, 20, 20, 20, 20, 20, 20, 20, 20, 20, 20, 20, 20, 20, 20, 20, 20, 20, 20, 20, 20, 20, 20, 20, 20, 20, 20, 20, 20, 20, 20, 20, 20, 20, 20, 20, 20, 20, 20, 20, 20, 20, 20, 20, 20, 20, 20, 20, 20, 20, 20, 20, 20, 20, 20, 20, 20, 20, 20, 20, 20, 20, 20, 20, 20, 20, 20, 20, 15] : List Nat)[i]?).getD 0
def gm_rt (i : Nat) : Option FieldType := (([none, none, none, none, none, none, none, none, none, (some .int), (some .int), (some .int), none, none, none, none, none, none, none, (some .int), none, (some .boolean), (some .int), (some .int), none, none, (some .int), none, (some .boolean), none, (some .int), (some .boolean), none, (some .int), (some .int), (some .int), (some .int), (some .int), none, none, (some .int), (some .boolean), none, none, (some .int), none, (some .int), (some .int), (some .int), (some .int), (some .boolean), (some .boolean), (some .int), (some .int), (some .boolean), (some .boolean), (some (.object "GlacierMail$State")), none, none, none, (some .boolean), none, none, (some .int), (some .int), (some .int), (some .boolean), (some .boolean), (some .int), (some .int), (some .int), (some .int), (some .int), none, none, none, none, (some .boolean), (some .boolean), (some .boolean), (some .int), (some .boolean), (some .int), (some .byte), (some .char), (some .boolean), (some .char), none, (some .int), (some .char), none, (some .int), (some .char), (some .boolean), (some .int), (some .boolean), (some .boolean), (some .boolean), (some .boolean), none, (some .boolean), (some .int), (some .int), (some .boolean), (some .boolean), (some .boolean), (some .boolean), (some .boolean), (some .boolean), (some .boolean), (some .boolean), (some .int), (some .boolean), (some .boolean), (some .boolean), (some .boolean), (some .boolean), (some .int), (some .boolean), (some .int), (some .boolean), (some .int), (some .int), (some .int), (some (.object "GlacierMail$Law")), (some (.array .int)), none, (some .int), (some .int), none, (some .int), (some .int), none, none, none, (some .int), (some .int), (some .int), (some .int), none, (some .int), (some .int), (some .int), none, (some .int), (some .int), (some .int), (some .int), none, (some .int), (some .int), (some .int), (some .int), none, none, (some .int), (some .int), (some .int), (some .int), none, (some .int), (some .int), (some .int), (some .int), (some .boolean), (some .boolean), (some .int), (some .int), (some .int), (some .int), none, (some .int), (some .int), (some .int), (some .int), none, (some .int), (some .int), (some .int), (some .int), (some .boolean), (some .boolean), (some .int), (some .boolean), none, (some .int), (some .int), none, (some .int), (some .int), (some .int), (some .int), (some .int), none, (some .int), (some .boolean), (some .int), (some .int), (some .boolean), (some .boolean), (some .int), (some .int), none, none, (some .int), (some .int), (some .int), (some .int), (some .int), (some .int), (some .int), (some .int), (some .int), (some .int), none, none, (some .int), (some .int), (some .int), (some .int), (some .int), (some .int), (some .int), (some .int), (some .int), (some .int), (some .int), (some .int), (some .int), (some .int), (some .int), (some .int), (some .int), (some .int), none, none, none, (some .boolean), (some .boolean), (some .int), (some .boolean), (some .int), (some .int), (some .int), none, none, (some .boolean), (some .boolean), none, (some .boolean), (some .boolean), (some .boolean), (some .boolean), (some .int), (some .int), (some .int), (some .int), (some .boolean), (some .boolean), (some .int), (some .boolean), (some .int), (some .boolean), (some .int), (some .int), (some .boolean), (some .int), (some .boolean), (some .int), (some .boolean), (some .boolean), none, none, (some .boolean), (some .boolean), (some .boolean), (some .boolean), (some .boolean), (some .boolean), none, (some .boolean), (some .boolean), (some .boolean), (some .int), (some .int), (some .boolean), (some .boolean), (some .int), (some .boolean), (some .boolean), (some .int), (some .int), (some .int), none, (some .int), (some .boolean), (some .int), (some .int), (some .boolean), (some .int), (some .int), (some .int), (some .boolean), (some .boolean), (some .int), none, none, (some .int), (some .int), (some .boolean), (some .int), (some .boolean), (some .boolean), (some .int), (some .int), (some .int), none, (some .int), (some .int), none, (some .int), (some .int), (some .int), (some .boolean), (some .int), (some .int), (some .int), (some .int), (some .int), (some .int), (some .int), (some .int), none, (some .int), (some .int), none, (some .boolean), (some .boolean), (some .int), (some .int), (some .int), (some .int), (some .boolean), (some .int), (some .boolean), (some .boolean), (some .boolean), (some .int), (some .int), (some .int), none, (some .int), (some .boolean), (some .int), (some .int), (some .int), (some .int), (some .int), none, (some .int), (some .int), (some .int), (some .int), (some .int), (some .int), (some .int), (some .int), (some .int), (some .int), (some .boolean)] : List (Option FieldType))[i]?).getD none
