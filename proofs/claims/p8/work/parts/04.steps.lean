/-! STEPS: an instruction of the abstract machine is one of the machine. -/
theorem gm_i8 (n : Int) : (Int8.ofInt n).toInt32 = Int32.ofInt (gm_wb n) := by
  apply Int32.toInt_inj.mp
  rw [gm_w_toInt, Int8.toInt_toInt32, Int8.toInt_ofInt, show (Int8.size : Nat) = 256 from rfl]
  unfold gm_wb gm_w
  rw [Int.bmod_def]
  split <;> omega
theorem gm_i16 (n : Int) : (Int16.ofInt n).toInt32 = Int32.ofInt (gm_ws n) := by
  apply Int32.toInt_inj.mp
  rw [gm_w_toInt, Int16.toInt_toInt32, Int16.toInt_ofInt, show (Int16.size : Nat) = 65536 from rfl]
  unfold gm_ws gm_w
  rw [Int.bmod_def]
  split <;> omega
theorem gm_i2b (x : Int) : (Int32.ofInt x).toInt8.toInt32 = Int32.ofInt (gm_wb x) := by
  rw [← gm_i8]
  congr 1
  exact Int32.toInt8_ofInt
theorem gm_sub (x y : Int) : Int32.ofInt x - Int32.ofInt y = Int32.ofInt (x - y) := (Int32.ofInt_sub x y).symm
theorem gm_add (x y : Int) : Int32.ofInt x + Int32.ofInt y = Int32.ofInt (x + y) := (Int32.ofInt_add x y).symm
theorem gm_mul (x y : Int) : Int32.ofInt x * Int32.ofInt y = Int32.ofInt (x * y) := (Int32.ofInt_mul x y).symm
theorem gm_neg (x : Int) : - Int32.ofInt x = Int32.ofInt (- x) := (Int32.ofInt_neg x).symm
theorem gm_dv (x y : Int) : Int32.ofInt x / Int32.ofInt y = Int32.ofInt (gm_div x y) := by
  apply Int32.toInt_inj.mp
  rw [Int32.toInt_div, gm_w_toInt, gm_w_toInt, ← Int32.toInt_ofInt]
  rfl
theorem gm_rm (x y : Int) : Int32.ofInt x - Int32.ofInt x / Int32.ofInt y * Int32.ofInt y = Int32.ofInt (gm_rem x y) := by
  rw [gm_dv, ← gm_w_of x, ← gm_w_of y, gm_mul, gm_sub]
  congr 1
  unfold gm_rem gm_div
  rw [Int.tmod_def, Int.mul_comm]
theorem gm_ti (z : Int32) : z = Int32.ofInt z.toInt := (Int32.ofInt_toInt z).symm
theorem gm_ti6 (z : Int64) : z = Int64.ofInt z.toInt := (Int64.ofInt_toInt z).symm
theorem gm_cat1 {α adK : Nat → Nat} {n : Nat} {v : gm_V} {w : Value} (h : gm_cv α adK n v w) (hs : ¬ gm_sort v = 1) : w.category = 1 := by
  rcases v with x | x | k | c
  · cases h; rfl
  · simp [gm_sort] at hs
  · obtain ⟨rfl, -⟩ := h; rcases gm_rf_or α k with e | ⟨a, e⟩ <;> (rw [e]; rfl)
  · obtain ⟨a, rfl, -⟩ := h; rfl
theorem gm_lr_get {α adK : Nat → Nat} {n nL : Nat} {L : gm_L} {ls : Array Slot} {j : Nat} {v : gm_V} (h : gm_lr α adK n nL L ls) (hj : L[j]? = some (some v)) : ∃ w, gm_cv α adK n v w ∧ ls[j]? = some (.val w) := by
  obtain ⟨-, l, hl, h⟩ := h
  obtain ⟨w, hw, hm⟩ := h j v hj
  exact ⟨w, hw, hl.2.2 (j, w) hm⟩
theorem gm_lc_len (L : gm_L) (j : Nat) : (gm_lc L j).length = L.length := by
  cases j with
  | zero => rfl
  | succ i => simp only [gm_lc]; split <;> simp
theorem gm_lc_at {L : gm_L} {j i : Nat} {v : gm_V} (h : (gm_lc L j)[i]? = some (some v)) : L[i]? = some (some v) ∧ ¬ (i + 1 = j ∧ gm_sort v = 1) := by
  cases j with
  | zero => exact ⟨h, fun q => by omega⟩
  | succ k =>
    simp only [gm_lc] at h
    split at h
    · rename_i x hx
      by_cases hk : k = i
      · subst hk
        have hlt : k < L.length := (List.getElem?_eq_some_iff.mp hx).1
        rw [List.getElem?_set_self hlt] at h
        cases h
      · rw [List.getElem?_set_ne hk] at h
        exact ⟨h, fun q => hk (by omega)⟩
    · rename_i hx
      refine ⟨h, fun q => ?_⟩
      obtain ⟨q1, q2⟩ := q
      have : i = k := by omega
      subst this
      rcases v with x | x | y
      · simp [gm_sort] at q2
      · exact hx x h
      · simp [gm_sort] at q2
theorem gm_lr_set1 {α adK : Nat → Nat} {n nL : Nat} {L : gm_L} {ls' : Array Slot} {j : Nat} {v : gm_V} {w : Value} {l : List (Nat × Value)} (hlen : L.length = nL) (h : ∀ (i : Nat) (v : gm_V), L[i]? = some (some v) → ∃ w, gm_cv α adK n v w ∧ (i, w) ∈ l) (hs : ¬ gm_sort v = 1) (hw : gm_cv α adK n v w)
    (hl : lv_has ls' nL ((j, w) :: l.filter (fun q => !(q.1 == j) && !(q.1 + 1 == j && q.2.category == 2)))) : gm_lr α adK n nL (gm_lst L j v) ls' := by
  have e : gm_lst L j v = (gm_lc L j).set j (some v) := by
    rcases v with x | x | y
    · rfl
    · simp [gm_sort] at hs
    · rfl
  rw [e]
  refine ⟨by rw [List.length_set, gm_lc_len, hlen], _, hl, fun i v' hi => ?_⟩
  by_cases hij : j = i
  · subst hij
    have hlt : j < ((gm_lc L j).set j (some v)).length := (List.getElem?_eq_some_iff.mp hi).1
    rw [List.length_set] at hlt
    rw [List.getElem?_set_self hlt] at hi
    cases hi
    exact ⟨w, hw, List.mem_cons_self⟩
  · rw [List.getElem?_set_ne hij] at hi
    obtain ⟨h1, h2⟩ := gm_lc_at hi
    obtain ⟨w', c1, c2⟩ := h i v' h1
    refine ⟨w', c1, List.mem_cons_of_mem _ (List.mem_filter.mpr ⟨c2, ?_⟩)⟩
    by_cases hi1 : i + 1 = j
    · have c3 := gm_cat1 c1 (fun q => h2 ⟨hi1, q⟩)
      simp [Ne.symm hij, c3]
    · simp [Ne.symm hij, hi1]
theorem gm_lr_set2 {α adK : Nat → Nat} {n nL : Nat} {L : gm_L} {ls' : Array Slot} {j : Nat} {x : Int} {l : List (Nat × Value)} (hlen : L.length = nL) (h : ∀ (i : Nat) (v : gm_V), L[i]? = some (some v) → ∃ w, gm_cv α adK n v w ∧ (i, w) ∈ l)
    (hl : lv_has ls' nL ((j, .long (Int64.ofInt x)) :: l.filter (fun q => !(q.1 == j) && (!(q.1 == j + 1) && !(q.1 + 1 == j && q.2.category == 2))))) : gm_lr α adK n nL (gm_lst L j (gm_vl x)) ls' := by
  show gm_lr α adK n nL (((gm_lc L j).set j (some (gm_vl x))).set (j + 1) none) ls'
  refine ⟨by rw [List.length_set, List.length_set, gm_lc_len, hlen], _, hl, fun i v' hi => ?_⟩
  by_cases hij1 : j + 1 = i
  · subst hij1
    have hlt := (List.getElem?_eq_some_iff.mp hi).1
    rw [List.length_set] at hlt
    rw [List.getElem?_set_self hlt] at hi
    cases hi
  · rw [List.getElem?_set_ne hij1] at hi
    by_cases hij : j = i
    · subst hij
      have hlt : j < ((gm_lc L j).set j (some (gm_vl x))).length := (List.getElem?_eq_some_iff.mp hi).1
      rw [List.length_set] at hlt
      rw [List.getElem?_set_self hlt] at hi
      cases hi
      exact ⟨_, rfl, List.mem_cons_self⟩
    · rw [List.getElem?_set_ne hij] at hi
      obtain ⟨h1, h2⟩ := gm_lc_at hi
      obtain ⟨w', c1, c2⟩ := h i v' h1
      refine ⟨w', c1, List.mem_cons_of_mem _ (List.mem_filter.mpr ⟨c2, ?_⟩)⟩
      by_cases hi1 : i + 1 = j
      · have c3 := gm_cat1 c1 (fun q => h2 ⟨hi1, q⟩)
        simp [Ne.symm hij, Ne.symm hij1, c3]
      · simp [Ne.symm hij, Ne.symm hij1, hi1]
/-- a step with one place behind it: dc cells and ds slots are made -/
noncomputable def gm_Sp (X : Int → Int) (LX d mi pc : Nat) (L : gm_L) (st : List gm_V) (n : Nat) (K : gm_K) (R : gm_R) (M : gm_M) (pc' : Nat) (L' : gm_L) (st' : List gm_V) (n' : Nat) (K' : gm_K) (R' : gm_R) (M' : gm_M) (dc ds : Nat) : Prop :=
  ∀ (p : Program) (l : Launch) (e : Env) (Rm : Room) (s : State) (m : MethodId) (args : Array Value) (below : List Frame) (meth : Method) (c : Code) (D : va_G) (ti : Nat → ClassId) (adK adV : Nat → Nat) (A : Nat → Prop),
    gm_Cx mi p l s m args meth c → gm_Ev X LX adK adV A s → d ≤ Rm.frames → d * 300 ≤ Rm.locals → (∀ q, s.heap.size ≤ q → A q) →
    ∀ (α : Nat → Nat) (H : Heap) (locs : List Loc) (cells slots : Nat) (ls : Array Slot) (sv : List Value) (Q' : State → Prop), cells + dc ≤ Rm.cells → slots + ds ≤ Rm.slots → gm_Rl D ti α A s H locs n K R M → gm_lr α adK n (gm_ml mi) L ls → gm_sr α adK n st sv →
      (∀ (α' : Nat → Nat) (H' : Heap) (locs' : List Loc) (ls' : Array Slot) (sv' : List Value), gm_xt α n α' n' → gm_Rl D ti α' A s H' locs' n' K' R' M' → gm_lr α' adK n' (gm_ml mi) L' ls' → gm_sr α' adK n' st' sv' → W p l e Rm s m args below meth c H' locs' (cells + dc) (slots + ds) Q' (F0 m pc' ls' sv')) →
      W p l e Rm s m args below meth c H locs cells slots Q' (F0 m pc ls sv)
theorem gm_xt.trans {α0 α1 α2 : Nat → Nat} {n0 n1 n2 : Nat} (h1 : gm_xt α0 n0 α1 n1) (h2 : gm_xt α1 n1 α2 n2) : gm_xt α0 n0 α2 n2 := ⟨Nat.le_trans h1.1 h2.1, fun k a b => (h2.2.1 k a (Nat.le_trans b h1.1)).trans (h1.2.1 k a b), by
  rcases h1.2.2 with z | f
  · exact Or.inl z
  · rcases h2.2.2 with z | g
    · exact Or.inl (by have := h1.1; omega)
    · exact Or.inr fun k hk => (g k hk).trans (f k hk)⟩
theorem gm_xt.rf {α : Nat → Nat} {n : Nat} : gm_xt α n α n := ⟨Nat.le_refl _, fun _ _ _ => rfl, Or.inr fun _ _ => rfl⟩
section GS
variable {X : Int → Int} {LX d bc bs mi pc : Nat} {L : gm_L} {st : List gm_V} {n : Nat} {K : gm_K} {R : gm_R} {M : gm_M} {Q : gm_Q}
theorem gm_sp {pc' n' dc ds : Nat} {L' : gm_L} {st' : List gm_V} {K' : gm_K} {R' : gm_R} {M' : gm_M} (h : gm_Sp X LX d mi pc L st n K R M pc' L' st' n' K' R' M' dc ds) (h1 : dc ≤ bc) (h2 : ds ≤ bs) (k : gm_Wp X LX d (bc - dc) (bs - ds) mi pc' L' st' n' K' R' M' Q) : gm_Wp X LX d bc bs mi pc L st n K R M Q := by
  intro p l e Rm s m args below meth c D ti adK adV A α0 n0 mc ms hcx hev hd hd2 hmc hms hA α H locs cells slots ls sv hxt hc1 hc2 hR hL hS
  refine h p l e Rm s m args below meth c D ti adK adV A hcx hev hd hd2 hA α H locs cells slots ls sv _ (by omega) (by omega) hR hL hS fun α' H' locs' ls' sv' hx hR' hL' hS' => ?_
  exact k p l e Rm s m args below meth c D ti adK adV A α0 n0 mc ms hcx hev hd hd2 hmc hms hA α' H' locs' (cells + dc) (slots + ds) ls' sv' (hxt.trans hx) (by omega) (by omega) hR' hL' hS'
theorem gm_dec {p : Program} {l : Launch} {s : State} {m : MethodId} {args : Array Value} {meth : Method} {c : Code} {i : Instr} (hcx : gm_Cx mi p l s m args meth c) (h : gm_at mi pc = some i) (hs : gm_sw i = false) : decode (gm_bc mi) pc = .ok (i, gm_len i) := by
  obtain ⟨len, h1, h2⟩ := gm_at_ok hcx.2.2.2.2.2.2.2.2.2.1 h
  rw [h1, h2 hs]
/-- a step that changes neither heap nor locals: from the stack st to st' -/
theorem gm_stk {pc' : Nat} {st' : List gm_V} (h : ∀ (p : Program) (l : Launch) (e : Env) (Rm : Room) (s : State) (m : MethodId) (args : Array Value) (below : List Frame) (meth : Method) (c : Code), gm_Cx mi p l s m args meth c → ∀ (α adK : Nat → Nat) (H : Heap) (locs : List Loc) (cells slots : Nat) (ls : Array Slot) (sv : List Value) (Q' : State → Prop), gm_lr α adK n (gm_ml mi) L ls → gm_sr α adK n st sv → (∀ sv', gm_sr α adK n st' sv' → W p l e Rm s m args below meth c H locs cells slots Q' (F0 m pc' ls sv')) → W p l e Rm s m args below meth c H locs cells slots Q' (F0 m pc ls sv)) :
    gm_Sp X LX d mi pc L st n K R M pc' L st' n K R M 0 0 := by
  intro p l e Rm s m args below meth c D ti adK adV A hcx hev hd hd2 hA α H locs cells slots ls sv Q' hc1 hc2 hR hL hS k
  exact h p l e Rm s m args below meth c hcx α adK H locs cells slots ls sv Q' hL hS fun sv' hS' => k α H locs ls sv' gm_xt.rf hR hL hS'
theorem gm_p_const {i : Instr} {v : gm_V} (h : gm_at mi pc = some i) (hc : gm_const i = some v) : gm_Sp X LX d mi pc L st n K R M (pc + gm_len i) L (v :: st) n K R M 0 0 := by
  refine gm_stk fun p l e Rm s m args below meth c hcx α adK H locs cells slots ls sv Q' hL hS k => ?_
  have k2 := fun w (hw : gm_cv α adK n v w) => k (w :: sv) ⟨w, sv, rfl, hw, hS⟩
  have hdg := gm_dec hcx h (by cases i <;> first | rfl | simp [gm_const] at hc)
  obtain ⟨hx, hb, -⟩ := hcx
  cases i <;> simp only [gm_const, Option.some.injEq, reduceCtorEq] at hc
  case iconst i => subst hc; exact lv_iconst hx hb hdg rfl (k2 _ rfl)
  case bipush i => subst hc; exact lv_bipush hx hb hdg (gm_i8 i) (k2 _ rfl)
  case sipush i => subst hc; exact lv_sipush hx hb hdg (gm_i16 i) (k2 _ rfl)
  case lconst i => subst hc; exact lv_lconst hx hb hdg rfl (k2 _ (by show _ = _; congr 1))
  case aconst_null => subst hc; exact lv_null hx hb hdg (k2 _ ⟨rfl, Or.inl (Nat.zero_le _)⟩)
theorem gm_p_load {i : Instr} {sr j : Nat} {v : gm_V} (h : gm_at mi pc = some i) (hc : gm_load i = some (sr, j)) (hj : L[j]? = some (some v)) (hs : gm_sort v = sr) : gm_Sp X LX d mi pc L st n K R M (pc + gm_len i) L (v :: st) n K R M 0 0 := by
  refine gm_stk fun p l e Rm s m args below meth c hcx α adK H locs cells slots ls sv Q' hL hS k => ?_
  obtain ⟨w, hw, hl⟩ := gm_lr_get hL hj
  have k2 := k (w :: sv) ⟨w, sv, rfl, hw, hS⟩
  have hdg := gm_dec hcx h (by cases i <;> first | rfl | simp [gm_load] at hc)
  obtain ⟨hx, hb, -⟩ := hcx
  cases i <;> simp only [gm_load, Option.some.injEq, reduceCtorEq, Prod.mk.injEq] at hc
  all_goals (obtain ⟨rfl, rfl⟩ := hc; rcases v with x | x | y | y <;> simp [gm_sort] at hs)
  case iload => cases hw; exact lv_iload hx hb hdg hl k2
  case iload_n => cases hw; exact lv_iload_n hx hb hdg rfl hl k2
  case lload => cases hw; exact lv_lload hx hb hdg hl k2
  case lload_n => cases hw; exact lv_lload_n hx hb hdg rfl hl k2
  case aload.inr.inr.inl => 
    obtain ⟨rfl, -⟩ := hw
    rcases gm_rf_or α y with e | ⟨a, e⟩
    · rw [e] at hl k2; exact lv_aloadN hx hb hdg hl k2
    · rw [e] at hl k2; exact lv_aload hx hb hdg hl k2
  case aload.inr.inr.inr => obtain ⟨a, rfl, -⟩ := hw; exact lv_aload hx hb hdg hl k2
  case aload_n.inr.inr.inl => 
    obtain ⟨rfl, -⟩ := hw
    rcases gm_rf_or α y with e | ⟨a, e⟩
    · rw [e] at hl k2; exact lv_aload_nN hx hb hdg rfl hl k2
    · rw [e] at hl k2; exact lv_aload_n hx hb hdg rfl hl k2
  case aload_n.inr.inr.inr => obtain ⟨a, rfl, -⟩ := hw; exact lv_aload_n hx hb hdg rfl hl k2
/-- a step of stack and locals alone -/
theorem gm_slo {pc' : Nat} {L' : gm_L} {st' : List gm_V} (h : ∀ (p : Program) (l : Launch) (e : Env) (Rm : Room) (s : State) (m : MethodId) (args : Array Value) (below : List Frame) (meth : Method) (c : Code), gm_Cx mi p l s m args meth c → ∀ (α adK : Nat → Nat) (H : Heap) (locs : List Loc) (cells slots : Nat) (ls : Array Slot) (sv : List Value) (Q' : State → Prop), gm_lr α adK n (gm_ml mi) L ls → gm_sr α adK n st sv → (∀ ls' sv', gm_lr α adK n (gm_ml mi) L' ls' → gm_sr α adK n st' sv' → W p l e Rm s m args below meth c H locs cells slots Q' (F0 m pc' ls' sv')) → W p l e Rm s m args below meth c H locs cells slots Q' (F0 m pc ls sv)) :
    gm_Sp X LX d mi pc L st n K R M pc' L' st' n K R M 0 0 := by
  intro p l e Rm s m args below meth c D ti adK adV A hcx hev hd hd2 hA α H locs cells slots ls sv Q' hc1 hc2 hR hL hS k
  exact h p l e Rm s m args below meth c hcx α adK H locs cells slots ls sv Q' hL hS fun ls' sv' hL' hS' => k α H locs ls' sv' gm_xt.rf hR hL' hS'
theorem gm_p_stor {i : Instr} {sr j : Nat} {v : gm_V} (h : gm_at mi pc = some i) (hc : gm_stor i = some (sr, j)) (hj : j + (if sr = 1 then 1 else 0) < L.length) (hs : gm_sort v = sr) : gm_Sp X LX d mi pc L (v :: st) n K R M (pc + gm_len i) (gm_lst L j v) st n K R M 0 0 := by
  refine gm_slo fun p l e Rm s m args below meth c hcx α adK H locs cells slots ls sv Q' hL hS k => ?_
  obtain ⟨w, sv, rfl, hw, hS⟩ := hS
  have k2 := fun ls' hL' => k ls' sv hL' hS
  have hdg := gm_dec hcx h (by cases i <;> first | rfl | simp [gm_stor] at hc)
  obtain ⟨hx, hb, -⟩ := hcx
  obtain ⟨hlen, l0, hl, hmem⟩ := hL
  rw [hlen] at hj
  cases i <;> simp only [gm_stor, Option.some.injEq, reduceCtorEq, Prod.mk.injEq] at hc
  all_goals (obtain ⟨rfl, rfl⟩ := hc; rcases v with x | x | y | y <;> simp [gm_sort] at hs)
  case istore => cases hw; exact lv_istore hx hb hdg hl hj rfl fun ls' h' => k2 ls' (gm_lr_set1 hlen hmem (by simp [gm_sort]) rfl h')
  case istore_n => cases hw; exact lv_istore_n hx hb hdg rfl hl hj rfl fun ls' h' => k2 ls' (gm_lr_set1 hlen hmem (by simp [gm_sort]) rfl h')
  case lstore => cases hw; exact lv_lstore hx hb hdg hl hj rfl fun ls' h' => k2 ls' (gm_lr_set2 hlen hmem h')
  case lstore_n => cases hw; exact lv_lstore_n hx hb hdg rfl hl hj rfl fun ls' h' => k2 ls' (gm_lr_set2 hlen hmem h')
  case astore.inr.inr.inl => 
    obtain ⟨rfl, hy⟩ := hw
    rcases gm_rf_or α y with e | ⟨a, e⟩
    · rw [e]; exact lv_astoreN hx hb hdg hl hj rfl fun ls' h' => k2 ls' (gm_lr_set1 hlen hmem (by simp [gm_sort]) ⟨e.symm, hy⟩ h')
    · rw [e]; exact lv_astore hx hb hdg hl hj rfl fun ls' h' => k2 ls' (gm_lr_set1 hlen hmem (by simp [gm_sort]) ⟨e.symm, hy⟩ h')
  case astore.inr.inr.inr => obtain ⟨a, rfl, ha⟩ := hw; exact lv_astore hx hb hdg hl hj rfl fun ls' h' => k2 ls' (gm_lr_set1 hlen hmem (by simp [gm_sort]) ⟨a, rfl, ha⟩ h')
  case astore_n.inr.inr.inl => 
    obtain ⟨rfl, hy⟩ := hw
    rcases gm_rf_or α y with e | ⟨a, e⟩
    · rw [e]; exact lv_astore_nN hx hb hdg rfl hl hj rfl fun ls' h' => k2 ls' (gm_lr_set1 hlen hmem (by simp [gm_sort]) ⟨e.symm, hy⟩ h')
    · rw [e]; exact lv_astore_n hx hb hdg rfl hl hj rfl fun ls' h' => k2 ls' (gm_lr_set1 hlen hmem (by simp [gm_sort]) ⟨e.symm, hy⟩ h')
  case astore_n.inr.inr.inr => obtain ⟨a, rfl, ha⟩ := hw; exact lv_astore_n hx hb hdg rfl hl hj rfl fun ls' h' => k2 ls' (gm_lr_set1 hlen hmem (by simp [gm_sort]) ⟨a, rfl, ha⟩ h')
end GS
