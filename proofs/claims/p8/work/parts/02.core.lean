/-! AN ABSTRACT MACHINE over resolved bytecode: ints and longs as integers, the heap as numbered cells. Names begin with gm_. -/
/-- a value: an int, a long, a cell's number (0: null), a thing that is only passed on (a String constant, a caught exception) -/
noncomputable abbrev gm_V : Type := Int ⊕ (Int ⊕ (Nat ⊕ Nat))
noncomputable abbrev gm_vi (x : Int) : gm_V := .inl x
noncomputable abbrev gm_vl (x : Int) : gm_V := .inr (.inl x)
noncomputable abbrev gm_vr (k : Nat) : gm_V := .inr (.inr (.inl k))
noncomputable abbrev gm_vo (k : Nat) : gm_V := .inr (.inr (.inr k))
/-- the int, the long, the byte that goes round -/
noncomputable def gm_w (x : Int) : Int := (x + 2147483648) % 4294967296 - 2147483648
noncomputable def gm_w6 (x : Int) : Int := (x + 9223372036854775808) % 18446744073709551616 - 9223372036854775808
noncomputable def gm_wb (x : Int) : Int := (x + 128) % 256 - 128
noncomputable def gm_ws (x : Int) : Int := (x + 32768) % 65536 - 32768
theorem gm_w_toInt (x : Int) : (Int32.ofInt x).toInt = gm_w x := by
  rw [Int32.toInt_ofInt, show (Int32.size : Nat) = 4294967296 from rfl]
  unfold gm_w
  rw [Int.bmod_def]
  split <;> omega
theorem gm_w6_toInt (x : Int) : (Int64.ofInt x).toInt = gm_w6 x := by
  rw [Int64.toInt_ofInt, show (Int64.size : Nat) = 18446744073709551616 from rfl]
  unfold gm_w6
  rw [Int.bmod_def]
  split <;> omega
theorem gm_w_of (x : Int) : Int32.ofInt (gm_w x) = Int32.ofInt x := by
  apply Int32.toInt_inj.mp
  rw [gm_w_toInt, gm_w_toInt]
  unfold gm_w
  omega
theorem gm_w_id {x : Int} (h1 : -2147483648 ≤ x) (h2 : x < 2147483648) : gm_w x = x := by unfold gm_w; omega
theorem gm_w_lo (x : Int) : -2147483648 ≤ gm_w x := by unfold gm_w; omega
theorem gm_w_hi (x : Int) : gm_w x < 2147483648 := by unfold gm_w; omega
theorem gm_lt (x y : Int) : Int32.ofInt x < Int32.ofInt y ↔ gm_w x < gm_w y := by rw [Int32.lt_iff_toInt_lt, gm_w_toInt, gm_w_toInt]
theorem gm_le (x y : Int) : Int32.ofInt x ≤ Int32.ofInt y ↔ gm_w x ≤ gm_w y := by rw [Int32.le_iff_toInt_le, gm_w_toInt, gm_w_toInt]
theorem gm_eq (x y : Int) : Int32.ofInt x = Int32.ofInt y ↔ gm_w x = gm_w y := by rw [← Int32.toInt_inj, gm_w_toInt, gm_w_toInt]
theorem gm_cl (x : Int) : (Int32.ofInt x).toNatClampNeg = (gm_w x).toNat := by
  show (Int32.ofInt x).toInt.toNat = _
  rw [gm_w_toInt]
theorem gm_in {x : Int} {n : Nat} (h0 : 0 ≤ gm_w x) (h1 : gm_w x < n) : vp_in (Int32.ofInt x) n := by
  rw [vp_in_iff, gm_w_toInt]; exact ⟨h0, h1⟩
noncomputable abbrev gm_K : Type := Nat → Nat × Nat
noncomputable abbrev gm_R : Type := Nat → Int → Nat
noncomputable abbrev gm_M : Type := Nat → Int → Int
noncomputable abbrev gm_L : Type := List (Option gm_V)
/-- how a method ends: with a value or none, or a throw of the class with this number -/
noncomputable abbrev gm_O : Type := Option gm_V ⊕ Nat
noncomputable abbrev gm_Q : Type := gm_O → Nat → gm_K → gm_R → gm_M → Prop
noncomputable def gm_uM (M : gm_M) (k : Nat) (j v : Int) : gm_M := fun a b => if a = k ∧ b = j then v else M a b
noncomputable def gm_uR (R : gm_R) (k : Nat) (j : Int) (v : Nat) : gm_R := fun a b => if a = k ∧ b = j then v else R a b
/-- a new cell: number n + 1, all 0 -/
noncomputable def gm_nK (K : gm_K) (n kind len : Nat) : gm_K := fun a => if a = n + 1 then (kind, len) else K a
noncomputable def gm_nM (M : gm_M) (n : Nat) : gm_M := fun a b => if a = n + 1 then 0 else M a b
noncomputable def gm_nR (R : gm_R) (n : Nat) : gm_R := fun a b => if a = n + 1 then 0 else R a b
/-! instructions in groups -/
noncomputable def gm_const : Instr → Option gm_V
  | .iconst i => some (gm_vi i)
  | .bipush i => some (gm_vi (gm_wb i))
  | .sipush i => some (gm_vi (gm_ws i))
  | .lconst l => some (gm_vl (l : Nat))
  | .aconst_null => some (gm_vr 0)
  | _ => none
/-- which local is loaded, of which sort (0 int, 1 long, 2 reference) -/
noncomputable def gm_load : Instr → Option (Nat × Nat)
  | .iload i => some (0, i)
  | .iload_n i => some (0, i)
  | .lload i => some (1, i)
  | .lload_n i => some (1, i)
  | .aload i => some (2, i)
  | .aload_n i => some (2, i)
  | _ => none
noncomputable def gm_stor : Instr → Option (Nat × Nat)
  | .istore i => some (0, i)
  | .istore_n i => some (0, i)
  | .lstore i => some (1, i)
  | .lstore_n i => some (1, i)
  | .astore i => some (2, i)
  | .astore_n i => some (2, i)
  | _ => none
noncomputable def gm_sort : gm_V → Nat
  | .inl _ => 0
  | .inr (.inl _) => 1
  | .inr (.inr _) => 2
noncomputable def gm_cat (v : gm_V) : Nat := if gm_sort v = 1 then 2 else 1
/-- int operations that always have a value: second, first on the stack -/
noncomputable def gm_bin : Instr → Option (Int → Int → Int)
  | .iadd => some fun x y => x + y
  | .isub => some fun x y => x - y
  | .imul => some fun x y => x * y
  | .iand => some fun x y => (Int32.ofInt x &&& Int32.ofInt y).toInt
  | .ior => some fun x y => (Int32.ofInt x ||| Int32.ofInt y).toInt
  | .ixor => some fun x y => (Int32.ofInt x ^^^ Int32.ofInt y).toInt
  | .ishl => some fun x y => (Int32.ofInt x <<< (Int32.ofInt y &&& 31)).toInt
  | .ishr => some fun x y => (Int32.ofInt x >>> (Int32.ofInt y &&& 31)).toInt
  | .iushr => some fun x y => ((Int32.ofInt x).toUInt32 >>> ((Int32.ofInt y).toUInt32 &&& Int32.toUInt32 31)).toInt32.toInt
  | _ => none
noncomputable def gm_cmp : ClassFile.Cond → Int → Int → Prop
  | .eq, x, y => gm_w x = gm_w y
  | .ne, x, y => ¬ gm_w x = gm_w y
  | .lt, x, y => gm_w x < gm_w y
  | .ge, x, y => gm_w y ≤ gm_w x
  | .gt, x, y => gm_w y < gm_w x
  | .le, x, y => gm_w x ≤ gm_w y
/-- the locals behind a store -/
noncomputable def gm_lc (L : gm_L) : Nat → gm_L
  | 0 => L
  | i + 1 => match L[i]? with
    | some (some (.inr (.inl _))) => L.set i none
    | _ => L
noncomputable def gm_lst (L : gm_L) (j : Nat) (v : gm_V) : gm_L := match v with
  | .inr (.inl _) => ((gm_lc L j).set j (some v)).set (j + 1) none
  | _ => (gm_lc L j).set j (some v)
noncomputable def gm_div (x y : Int) : Int := Int.tdiv (gm_w x) (gm_w y)
noncomputable def gm_rem (x y : Int) : Int := Int.tmod (gm_w x) (gm_w y)
/-- long operations: second, first on the stack -/
noncomputable def gm_lbin : Instr → Option (Int → Int → Int)
  | .land => some fun x y => (Int64.ofInt x &&& Int64.ofInt y).toInt
  | .lor => some fun x y => (Int64.ofInt x ||| Int64.ofInt y).toInt
  | .lxor => some fun x y => (Int64.ofInt x ^^^ Int64.ofInt y).toInt
  | _ => none
/-- a long moved by an int -/
noncomputable def gm_lsh : Instr → Option (Int → Int → Int)
  | .lshl => some fun x y => (Int64.ofInt x <<< ((Int32.ofInt y).toInt64 &&& 63)).toInt
  | .lushr => some fun x y => ((Int64.ofInt x).toUInt64 >>> ((Int32.ofInt y).toInt64.toUInt64 &&& Int64.toUInt64 63)).toInt64.toInt
  | _ => none
noncomputable def gm_lcm (x y : Int) : Int := if gm_w6 y < gm_w6 x then 1 else if gm_w6 x = gm_w6 y then 0 else -1
/-- one int to another sort -/
noncomputable def gm_un : Instr → Option (Int → Int)
  | .ineg => some fun x => - x
  | .i2b => some fun x => gm_wb x
  | _ => none
noncomputable def gm_tgt (pc : Nat) (off : Int) : Nat := ((pc : Int) + off).toNat
noncomputable def gm_T : List Jvm.Cond := lw_tbl.filter goodWord
/-- the words by number: by chunks -/
noncomputable def gm_tb (i : Nat) : Option Jvm.Cond := bif Nat.ble 2313 i then fl_nth tables_1_10 (Nat.sub i 2313) else (bif Nat.ble 2073 i then fl_nth tables_1_9 (Nat.sub i 2073) else (bif Nat.ble 1833 i then fl_nth tables_1_8 (Nat.sub i 1833) else (bif Nat.ble 1593 i then fl_nth tables_1_7 (Nat.sub i 1593) else (bif Nat.ble 1353 i then fl_nth tables_1_6 (Nat.sub i 1353) else (bif Nat.ble 1113 i then fl_nth tables_1_5 (Nat.sub i 1113) else (bif Nat.ble 873 i then fl_nth tables_1_4 (Nat.sub i 873) else (bif Nat.ble 633 i then fl_nth tables_1_3 (Nat.sub i 633) else (bif Nat.ble 393 i then fl_nth tables_1_2 (Nat.sub i 393) else (bif Nat.ble 153 i then fl_nth tables_1_1 (Nat.sub i 153) else fl_nth (k2_sels lw_privs) i)))))))))
theorem gm_tb_in {w : Jvm.Cond} {i : Nat} (h : gm_tb i = some w) : w ∈ lw_tbl := by
  unfold gm_tb at h
  unfold lw_tbl tables_1
  cases e9 : Nat.ble 2313 i with
  | true =>
    rw [e9, cond_true, fl_nth_eq] at h
    exact List.mem_append_right _ (List.mem_append_right _ (List.mem_append_right _ (List.mem_append_right _ (List.mem_append_right _ (List.mem_append_right _ (List.mem_append_right _ (List.mem_append_right _ (List.mem_append_right _ (List.mem_append_right _ (List.mem_of_getElem? h))))))))))
  | false =>
  rw [e9, cond_false] at h
  cases e8 : Nat.ble 2073 i with
  | true =>
    rw [e8, cond_true, fl_nth_eq] at h
    exact List.mem_append_right _ (List.mem_append_right _ (List.mem_append_right _ (List.mem_append_right _ (List.mem_append_right _ (List.mem_append_right _ (List.mem_append_right _ (List.mem_append_right _ (List.mem_append_right _ (List.mem_append_left _ (List.mem_of_getElem? h))))))))))
  | false =>
  rw [e8, cond_false] at h
  cases e7 : Nat.ble 1833 i with
  | true =>
    rw [e7, cond_true, fl_nth_eq] at h
    exact List.mem_append_right _ (List.mem_append_right _ (List.mem_append_right _ (List.mem_append_right _ (List.mem_append_right _ (List.mem_append_right _ (List.mem_append_right _ (List.mem_append_right _ (List.mem_append_left _ (List.mem_of_getElem? h)))))))))
  | false =>
  rw [e7, cond_false] at h
  cases e6 : Nat.ble 1593 i with
  | true =>
    rw [e6, cond_true, fl_nth_eq] at h
    exact List.mem_append_right _ (List.mem_append_right _ (List.mem_append_right _ (List.mem_append_right _ (List.mem_append_right _ (List.mem_append_right _ (List.mem_append_right _ (List.mem_append_left _ (List.mem_of_getElem? h))))))))
  | false =>
  rw [e6, cond_false] at h
  cases e5 : Nat.ble 1353 i with
  | true =>
    rw [e5, cond_true, fl_nth_eq] at h
    exact List.mem_append_right _ (List.mem_append_right _ (List.mem_append_right _ (List.mem_append_right _ (List.mem_append_right _ (List.mem_append_right _ (List.mem_append_left _ (List.mem_of_getElem? h)))))))
  | false =>
  rw [e5, cond_false] at h
  cases e4 : Nat.ble 1113 i with
  | true =>
    rw [e4, cond_true, fl_nth_eq] at h
    exact List.mem_append_right _ (List.mem_append_right _ (List.mem_append_right _ (List.mem_append_right _ (List.mem_append_right _ (List.mem_append_left _ (List.mem_of_getElem? h))))))
  | false =>
  rw [e4, cond_false] at h
  cases e3 : Nat.ble 873 i with
  | true =>
    rw [e3, cond_true, fl_nth_eq] at h
    exact List.mem_append_right _ (List.mem_append_right _ (List.mem_append_right _ (List.mem_append_right _ (List.mem_append_left _ (List.mem_of_getElem? h)))))
  | false =>
  rw [e3, cond_false] at h
  cases e2 : Nat.ble 633 i with
  | true =>
    rw [e2, cond_true, fl_nth_eq] at h
    exact List.mem_append_right _ (List.mem_append_right _ (List.mem_append_right _ (List.mem_append_left _ (List.mem_of_getElem? h))))
  | false =>
  rw [e2, cond_false] at h
  cases e1 : Nat.ble 393 i with
  | true =>
    rw [e1, cond_true, fl_nth_eq] at h
    exact List.mem_append_right _ (List.mem_append_right _ (List.mem_append_left _ (List.mem_of_getElem? h)))
  | false =>
  rw [e1, cond_false] at h
  cases e0 : Nat.ble 153 i with
  | true =>
    rw [e0, cond_true, fl_nth_eq] at h
    exact List.mem_append_right _ (List.mem_append_left _ (List.mem_of_getElem? h))
  | false =>
  rw [e0, cond_false] at h
  rw [fl_nth_eq] at h
  exact List.mem_append_left _ (List.mem_of_getElem? h)
theorem gm_T_in {w : Jvm.Cond} {i : Nat} (h : gm_tb i = some w) (hg : goodWord w = true) : w ∈ gm_T := List.mem_filter.mpr ⟨gm_tb_in h, hg⟩
/-- a word's kind -/
noncomputable def gm_tag (w : Jvm.Cond) : Nat := match w with
  | .arrayClass .. => 1
  | .arrayOver .. => 2
  | .castable .. => 3
  | .classLink .. => 4
  | .code .. => 5
  | .codeSync .. => 6
  | .codeWith .. => 7
  | .constant .. => 8
  | .constantLong .. => 9
  | .declares .. => 10
  | .fieldLink .. => 11
  | .initialized .. => 12
  | .instanceMethod .. => 13
  | .instantiable .. => 14
  | .lays .. => 15
  | .laysFinal .. => 16
  | .laysStatic .. => 17
  | .methodLink .. => 18
  | .methodLinkNest .. => 19
  | .native .. => 20
  | .privateMethod .. => 21
  | .sameField .. => 22
  | .sameMethod .. => 23
  | .selects .. => 24
  | .soleField .. => 25
  | .static .. => 26
  | .stringRef .. => 27
  | .superclass .. => 28
  | _ => 0
noncomputable def gm_mem (w : Jvm.Cond) : Bool := fl_any ([tables_1_1, tables_1_2, tables_1_3, tables_1_4, tables_1_5, tables_1_6, tables_1_7, tables_1_8, tables_1_9, tables_1_10, k2_sels lw_privs] : List (List Jvm.Cond)) fun l => fl_any l fun v => fl_if (Nat.beq (gm_tag v) (gm_tag w)) (decide (v = w)) false
theorem gm_mem_in {w : Jvm.Cond} (h : gm_mem w = true) : w ∈ lw_tbl := by
  unfold gm_mem at h
  simp only [fl_any_eq, fl_and, List.any_eq_true, Bool.and_eq_true, decide_eq_true_eq] at h
  obtain ⟨l, hl, v, hv, -, rfl⟩ := h
  unfold lw_tbl tables_1
  simp only [List.mem_append]
  simp only [List.mem_cons, List.not_mem_nil, or_false] at hl
  rcases hl with rfl | rfl | rfl | rfl | rfl | rfl | rfl | rfl | rfl | rfl | rfl
  · exact Or.inr (Or.inl hv)
  · exact Or.inr (Or.inr (Or.inl hv))
  · exact Or.inr (Or.inr (Or.inr (Or.inl hv)))
  · exact Or.inr (Or.inr (Or.inr (Or.inr (Or.inl hv))))
  · exact Or.inr (Or.inr (Or.inr (Or.inr (Or.inr (Or.inl hv)))))
  · exact Or.inr (Or.inr (Or.inr (Or.inr (Or.inr (Or.inr (Or.inl hv))))))
  · exact Or.inr (Or.inr (Or.inr (Or.inr (Or.inr (Or.inr (Or.inr (Or.inl hv)))))))
  · exact Or.inr (Or.inr (Or.inr (Or.inr (Or.inr (Or.inr (Or.inr (Or.inr (Or.inl hv))))))))
  · exact Or.inr (Or.inr (Or.inr (Or.inr (Or.inr (Or.inr (Or.inr (Or.inr (Or.inr (Or.inl hv)))))))))
  · exact Or.inr (Or.inr (Or.inr (Or.inr (Or.inr (Or.inr (Or.inr (Or.inr (Or.inr (Or.inr (hv))))))))))
  · exact Or.inl hv
theorem gm_poss {ws : List Jvm.Cond} {ps : List Nat} (h : (decide (ws.map some = ps.map gm_tb) && ws.all goodWord) = true) : ∀ w ∈ ws, w ∈ gm_T := by
  rw [Bool.and_eq_true, decide_eq_true_eq] at h
  intro w hw
  have h2 : some w ∈ ps.map gm_tb := by rw [← h.1]; exact List.mem_map_of_mem hw
  obtain ⟨i, -, h3⟩ := List.mem_map.mp h2
  exact gm_T_in h3 (List.all_eq_true.mp h.2 w hw)
theorem gm_T_good : GoodIn gm_T gm_T := fun w h => ⟨h, good_of_word (List.mem_filter.mp h).2⟩
/-- the links to a nest mate's private constructor -/
noncomputable def gm_nst : List (String × Nat × MethodName × String) := [("GlacierMail", 22, ⟨"GlacierMail$State", "<init>", "()V"⟩, "GlacierMail"), ("GlacierMail$History", 24, ⟨"GlacierMail$State", "<init>", "()V"⟩, "GlacierMail")]
