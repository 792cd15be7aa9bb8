/-! THE ABSTRACT MACHINE'S STATES as states of the machine. -/
theorem gm_lookup_mem {α : Type} (l : List (Nat × α)) (k : Nat) (v : α) (h : l.lookup k = some v) : (k, v) ∈ l := by
  induction l with
  | nil => simp at h
  | cons q l ih =>
    obtain ⟨a, b⟩ := q
    rw [List.lookup_cons] at h
    by_cases hk : k = a
    · subst hk; simp at h; subst h; exact List.mem_cons_self
    · have hk2 : (k == a) = false := by simpa using hk
      rw [hk2] at h
      exact List.mem_cons_of_mem _ (ih h)
theorem gm_at_ok {mi pc : Nat} {i : Instr} (hm : mi < 371) (h : gm_at mi pc = some i) : ∃ len, decode (gm_bc mi) pc = .ok (i, len) ∧ (gm_sw i = false → len = gm_len i) := by
  have h1 := gm_ka_all hm
  rw [gm_at_def] at h
  cases hr : (gm_cd mi)[pc / 32]? with
  | none => rw [hr] at h; simp at h
  | some r =>
    rw [hr] at h
    have h2 := gm_lookup_mem _ _ _ h
    have h3 : r.all (gm_ck1 (gm_bc mi)) = true := List.all_eq_true.mp h1 r (List.mem_of_getElem? hr)
    have h4 : gm_ck1 (gm_bc mi) (pc, i) = true := List.all_eq_true.mp h3 _ h2
    unfold gm_ck1 at h4
    dsimp only at h4
    cases hd : decode (gm_bc mi) pc with
    | error e => rw [hd] at h4; cases h4
    | ok x =>
      rw [hd] at h4
      obtain ⟨i', len⟩ := x
      simp only [Bool.and_eq_true, Bool.or_eq_true, decide_eq_true_eq] at h4
      obtain ⟨rfl, h5⟩ := h4
      refine ⟨len, rfl, fun h6 => ?_⟩
      rcases h5 with h5 | h5
      · rw [h6] at h5; cases h5
      · exact h5
/-- a reference: a cell; from 100000 on what is only passed on, an object beside the cells, or nothing -/
noncomputable def gm_rf (α : Nat → Nat) : Nat → Value
  | 0 => .null
  | k + 1 => if k + 1 < 100000 then .ref (α (k + 1)) else match α (k + 1) with
    | 0 => .null
    | a + 1 => .ref a
noncomputable def gm_ro (α : Nat → Nat) : Nat → Option Nat
  | 0 => none
  | k + 1 => if k + 1 < 100000 then some (α (k + 1)) else match α (k + 1) with
    | 0 => none
    | a + 1 => some a
theorem gm_rf_ro (α : Nat → Nat) (k : Nat) : va_rf (gm_ro α k) = gm_rf α k := by
  cases k with
  | zero => rfl
  | succ k =>
    simp only [gm_rf, gm_ro]
    by_cases h : k + 1 < 100000
    · rw [if_pos h, if_pos h]; rfl
    · rw [if_neg h, if_neg h]
      cases α (k + 1) <;> rfl
theorem gm_rf_or (α : Nat → Nat) (k : Nat) : gm_rf α k = .null ∨ ∃ a, gm_rf α k = .ref a := by
  cases k with
  | zero => exact Or.inl rfl
  | succ k =>
    simp only [gm_rf]
    by_cases h : k + 1 < 100000
    · rw [if_pos h]; exact Or.inr ⟨_, rfl⟩
    · rw [if_neg h]
      cases α (k + 1) with
      | zero => exact Or.inl rfl
      | succ a => exact Or.inr ⟨_, rfl⟩
theorem gm_rf_pos {α : Nat → Nat} {k : Nat} (h : 1 ≤ k) (h2 : k < 100000) : gm_rf α k = .ref (α k) := by
  cases k with
  | zero => omega
  | succ k => simp only [gm_rf]; rw [if_pos h2]
theorem gm_ro_pos {α : Nat → Nat} {k : Nat} (h : 1 ≤ k) (h2 : k < 100000) : gm_ro α k = some (α k) := by
  cases k with
  | zero => omega
  | succ k => simp only [gm_ro]; rw [if_pos h2]
theorem gm_rf_cg {α α' : Nat → Nat} {k : Nat} (h : 1 ≤ k → α' k = α k) : gm_rf α' k = gm_rf α k := by
  cases k with
  | zero => rfl
  | succ k => simp only [gm_rf]; rw [h (by omega)]
theorem gm_ro_cg {α α' : Nat → Nat} {k : Nat} (h : 1 ≤ k → α' k = α k) : gm_ro α' k = gm_ro α k := by
  cases k with
  | zero => rfl
  | succ k => simp only [gm_ro]; rw [h (by omega)]
/-- a reference that may be met: a cell that is there, or one that is passed on -/
noncomputable def gm_kn (n k : Nat) : Prop := k ≤ n ∨ (100000 ≤ k ∧ 0 < n)
/-- an object's fields -/
noncomputable def gm_fs (α : Nat → Nat) (R : gm_R) (M : gm_M) (k c : Nat) : List Value := (List.range (gm_nf c)).map fun j => if gm_isr c j = true then gm_rf α (R k j) else .int (Int32.ofInt (M k j))
/-- a cell, by its kind: 0 int[], 1 byte[], 2 long[], 3 State[], c + 4 an object of class c -/
noncomputable def gm_en (ti : Nat → ClassId) (α : Nat → Nat) (K : gm_K) (R : gm_R) (M : gm_M) (k : Nat) : va_E :=
  match (K k).1 with
  | 0 => .inl (ti 0, (K k).2, .inl fun j => Int32.ofInt (M k j))
  | 1 => .inl (ti 1, (K k).2, .inl fun j => Int32.ofInt (M k j))
  | 2 => .inl (ti 2, (K k).2, .inr (.inl fun j => Int64.ofInt (M k j)))
  | 3 => .inl (ti 3, (K k).2, .inr (.inr (.inr (.inr fun j => gm_ro α (R k j)))))
  | c + 4 => .inr (c, gm_fs α R M k c)
noncomputable def gm_wl (ti : Nat → ClassId) (α : Nat → Nat) (n : Nat) (K : gm_K) (R : gm_R) (M : gm_M) : va_W := (List.range n).map fun i => (α (i + 1), gm_en ti α K R M (i + 1))
noncomputable def gm_ty (ti : Nat → ClassId) : List (ClassId × FieldType) := [(ti 0, .int), (ti 1, .byte), (ti 2, .long), (ti 3, .object "GlacierMail$State")]
theorem gm_wl_at {ti : Nat → ClassId} {α : Nat → Nat} {n : Nat} {K : gm_K} {R : gm_R} {M : gm_M} {k : Nat} (h1 : 1 ≤ k) (h2 : k ≤ n) : (gm_wl ti α n K R M)[k - 1]? = some (α k, gm_en ti α K R M k) := by
  unfold gm_wl
  rw [List.getElem?_map, List.getElem?_range (by omega)]
  simp only [Option.map_some]
  rw [show k - 1 + 1 = k by omega]
theorem gm_wl_len {ti : Nat → ClassId} {α : Nat → Nat} {n : Nat} {K : gm_K} {R : gm_R} {M : gm_M} : (gm_wl ti α n K R M).length = n := by simp [gm_wl]
theorem gm_wl_ext {ti : Nat → ClassId} {α α' : Nat → Nat} {n : Nat} {K K' : gm_K} {R R' : gm_R} {M M' : gm_M} (h : ∀ k, 1 ≤ k → k ≤ n → α k = α' k ∧ gm_en ti α K R M k = gm_en ti α' K' R' M' k) : gm_wl ti α n K R M = gm_wl ti α' n K' R' M' := by
  unfold gm_wl
  apply List.map_congr_left
  intro i hi
  have hi2 := List.mem_range.mp hi
  obtain ⟨e1, e2⟩ := h (i + 1) (by omega) (by omega)
  rw [e1, e2]
/-- the world with one cell changed -/
theorem gm_wl_set {ti : Nat → ClassId} {α : Nat → Nat} {n : Nat} {K : gm_K} {R R' : gm_R} {M M' : gm_M} {k : Nat} {x : va_E} (h1 : 1 ≤ k) (h2 : k ≤ n) (hx : gm_en ti α K R' M' k = x) (hne : ∀ k', k' ≠ k → gm_en ti α K R' M' k' = gm_en ti α K R M k') : (gm_wl ti α n K R M).set (k - 1) (α k, x) = gm_wl ti α n K R' M' := by
  apply List.ext_getElem?
  intro i
  by_cases hi : i < n
  · rw [List.getElem?_set]
    have e1 := gm_wl_at (ti := ti) (α := α) (n := n) (K := K) (R := R) (M := M) (k := i + 1) (by omega) (by omega)
    have e2 := gm_wl_at (ti := ti) (α := α) (n := n) (K := K) (R := R') (M := M') (k := i + 1) (by omega) (by omega)
    rw [show i + 1 - 1 = i by omega] at e1 e2
    rw [e1, e2]
    by_cases hk : k - 1 = i
    · have : i + 1 = k := by omega
      rw [if_pos hk, if_pos (by rw [gm_wl_len]; omega), this, hx]
    · rw [if_neg hk, hne (i + 1) (by omega)]
  · rw [List.getElem?_eq_none (by rw [List.length_set, gm_wl_len]; omega), List.getElem?_eq_none (by rw [gm_wl_len]; omega)]
/-- a value of the abstract machine, a value of the machine -/
noncomputable def gm_cv (α adK : Nat → Nat) (n : Nat) : gm_V → Value → Prop
  | .inl x, w => w = .int (Int32.ofInt x)
  | .inr (.inl x), w => w = .long (Int64.ofInt x)
  | .inr (.inr (.inl k)), w => w = gm_rf α k ∧ gm_kn n k
  | .inr (.inr (.inr c)), w => ∃ a, w = .ref a ∧ (c < 3000 → a = adK c)
noncomputable def gm_lr (α adK : Nat → Nat) (n nL : Nat) (L : gm_L) (ls : Array Slot) : Prop := L.length = nL ∧ ∃ l, lv_has ls nL l ∧ ∀ (i : Nat) (v : gm_V), L[i]? = some (some v) → ∃ w, gm_cv α adK n v w ∧ (i, w) ∈ l
noncomputable def gm_sr (α adK : Nat → Nat) (n : Nat) : List gm_V → List Value → Prop
  | [], ws => ws = []
  | v :: vs, ws => ∃ w ws', ws = w :: ws' ∧ gm_cv α adK n v w ∧ gm_sr α adK n vs ws'
/-- the classes of what is thrown -/
noncomputable def gm_xn (x : Nat) : String := (["java/lang/IllegalArgumentException", "java/lang/UnsupportedOperationException", "java/lang/IllegalStateException", "java/lang/IndexOutOfBoundsException", "java/util/NoSuchElementException"][x]?).getD ""
/-- constructors that are said to be declared where they are -/
noncomputable def gm_dcs : List MethodName := [⟨"java/lang/RuntimeException", "<init>", "(Ljava/lang/String;)V"⟩, ⟨"java/lang/Exception", "<init>", "(Ljava/lang/String;)V"⟩, ⟨"java/lang/Throwable", "<init>", "(Ljava/lang/String;)V"⟩, ⟨"GlacierMail$TextReader", "clear", "()V"⟩, ⟨"GlacierMail$TextReader", "readLine", "()Z"⟩, ⟨"GlacierMail$TextReader", "readText", "(I)I"⟩]
/-- the strings and statics that every method may meet: the script among them -/
noncomputable def gm_Ev (X : Int → Int) (LX : Nat) (adK adV : Nat → Nat) (A : Nat → Prop) (s : State) : Prop :=
  (∀ i, i < gm_sl.length → vk_S 1 [gm_sl.getD i 0] [gm_sb.getD i []] (fun _ => adK i) (fun _ => adV i) A s s.heap) ∧
  (∀ q ∈ gm_sr_, vk_R q.1 q.2.1 q.2.2.1 (adK q.2.2.2) s) ∧
  vx_Zq "java/lang/Throwable" "UNASSIGNED_STACK" "[Ljava/lang/StackTraceElement;" A s s.heap ∧ vx_Zq "java/lang/Throwable" "SUPPRESSED_SENTINEL" "Ljava/util/List;" A s s.heap ∧
  (va_Z "java/lang/String" "COMPACT_STRINGS" "Z" (.int 1) A s s.heap ∧ va_Zq "jdk/internal/util/Preconditions" "SIOOBE_FORMATTER" "Ljava/util/function/BiFunction;" A s s.heap ∧ ∀ i, i < gm_sl.length → adK (1000 + i) = adV i) ∧
  va_X (adK 2000) LX (fun j => Int32.ofInt (X j)) s s.heap ∧ adK 2000 < s.heap.size ∧ ¬ A (adK 2000) ∧
  va_AO "GlacierMail$State" s ∧ (∀ q ∈ gm_nst, va_Nw (.methodLinkNest q.1 q.2.1 q.2.2.1 q.2.2.2) s) ∧ va_Nw (.castable "[I" "java/lang/Cloneable") s ∧ (∀ x y, x < 5 → y < 5 → if x = y then va_Nw (.castable (gm_xn x) (gm_xn y)) s else va_Nc (gm_xn x) (gm_xn y) s) ∧ ∀ y ∈ gm_dcs, va_Nw (.declares y) s
noncomputable def gm_Cx (mi : Nat) (p : Program) (l : Launch) (s : State) (m : MethodId) (args : Array Value) (meth : Method) (c : Code) : Prop :=
  p.tables.exec = Jvm.exec ∧ c.code = gm_bc mi ∧ c.maxLocals = gm_ml mi ∧ s.vm.findClass (gm_rn (gm_ow mi)) = some m.cls ∧ meth.sig.returnType = gm_rt mi ∧ meth.locks = false ∧ (∀ w ∈ gm_T, w.before args s = true) ∧ meth.name = (gm_mn mi).name ∧ l.stackTraces = false ∧ mi < 371 ∧ c.exceptionTable.toList = tableOf (gm_hh mi)
/-- references go to cells that are there -/
noncomputable def gm_Rv (n : Nat) (R : gm_R) : Prop := n < 100000 ∧ ∀ (k : Nat) (j : Int), gm_kn n (R k j)
noncomputable def gm_Rl (D : va_G) (ti : Nat → ClassId) (α : Nat → Nat) (A : Nat → Prop) (s : State) (H : Heap) (locs : List Loc) (n : Nat) (K : gm_K) (R : gm_R) (M : gm_M) : Prop :=
  va_K D gm_cs (gm_ty ti) s ∧ va_P D gm_cs (gm_wl ti α n K R M) H ∧ va_D A (gm_wl ti α n K R M) ∧ va_S A s.heap H locs ∧ gm_Rv n R
noncomputable def gm_xt (α0 : Nat → Nat) (n0 : Nat) (α : Nat → Nat) (n : Nat) : Prop := n0 ≤ n ∧ (∀ k, 1 ≤ k → k ≤ n0 → α k = α0 k) ∧ (n0 = 0 ∨ ∀ k, 100000 ≤ k → α k = α0 k)
noncomputable def gm_ov (α adK : Nat → Nat) (n : Nat) : Option gm_V → Option Value → Prop
  | none, v => v = none
  | some u, v => ∃ w, v = some w ∧ gm_cv α adK n u w
noncomputable def gm_QC (D : va_G) (ti : Nat → ClassId) (adK : Nat → Nat) (A : Nat → Prop) (α0 : Nat → Nat) (n0 : Nat) (Q : gm_Q) : Array Value → State → Outcome → State → Prop := fun _ st o t =>
  (∃ (v : Option Value) (u : Option gm_V) (α : Nat → Nat) (n : Nat) (K : gm_K) (R : gm_R) (M : gm_M), o = .returned v ∧ gm_ov α adK n u v ∧ Q (.inl u) n K R M ∧ gm_xt α0 n0 α n ∧ va_K D gm_cs (gm_ty ti) t ∧ va_P D gm_cs (gm_wl ti α n K R M) t.heap ∧ va_D A (gm_wl ti α n K R M) ∧ gm_Rv n R) ∧ va_F A st t
noncomputable def gm_XC (D : va_G) (ti : Nat → ClassId) (A : Nat → Prop) (α0 : Nat → Nat) (n0 : Nat) (Q : gm_Q) : String → State → State → Prop := fun E st t =>
  (∃ (x : Nat) (α : Nat → Nat) (n : Nat) (K : gm_K) (R : gm_R) (M : gm_M), E = gm_xn x ∧ x < 5 ∧ Q (.inr x) n K R M ∧ gm_xt α0 n0 α n ∧ va_K D gm_cs (gm_ty ti) t ∧ va_P D gm_cs (gm_wl ti α n K R M) t.heap ∧ va_D A (gm_wl ti α n K R M) ∧ gm_Rv n R) ∧ va_F A st t
/-- THE JUDGEMENT: from this state of a frame the method comes to an end with Q; it needs d more frames, bc cells, bs slots at most -/
noncomputable def gm_Wp (X : Int → Int) (LX : Nat) (d bc bs mi pc : Nat) (L : gm_L) (st : List gm_V) (n : Nat) (K : gm_K) (R : gm_R) (M : gm_M) (Q : gm_Q) : Prop :=
  ∀ (p : Program) (l : Launch) (e : Env) (Rm : Room) (s : State) (m : MethodId) (args : Array Value) (below : List Frame) (meth : Method) (c : Code) (D : va_G) (ti : Nat → ClassId) (adK adV : Nat → Nat) (A : Nat → Prop) (α0 : Nat → Nat) (n0 mc ms : Nat),
    gm_Cx mi p l s m args meth c → gm_Ev X LX adK adV A s → d ≤ Rm.frames → d * 300 ≤ Rm.locals → mc ≤ Rm.cells → ms ≤ Rm.slots → (∀ q, s.heap.size ≤ q → A q) →
    ∀ (α : Nat → Nat) (H : Heap) (locs : List Loc) (cells slots : Nat) (ls : Array Slot) (sv : List Value), gm_xt α0 n0 α n → cells + bc ≤ mc → slots + bs ≤ ms → gm_Rl D ti α A s H locs n K R M → gm_lr α adK n (gm_ml mi) L ls → gm_sr α adK n st sv →
      W p l e Rm s m args below meth c H locs cells slots (vx_MQ below (gm_QC D ti adK A α0 n0 Q) (gm_XC D ti A α0 n0 Q) args s mc ms A) (F0 m pc ls sv)
