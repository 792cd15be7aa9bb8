/-! WHAT THE CHECKER STANDS ON (turned from 12.wx to 16.ib of p1): what is fixed in memory, kinds, references, and TYPES: bounds that a cell's numbers keep. -/
abbrev gm_JJ : Type := gm_K → gm_M → Prop
/-- what is said of memory looks at stretches that nothing writes, and at the kinds of their cells; and, with counted cells g (a row, the place of what goes on, the place where it began), at (0, 4), how far it is, (0, 3), where it began less what was laid down, and (0, 5), both together -/
def gm_hP (fp : Nat → List (Int × Int)) (J : gm_JJ) (gh : Option (Nat × Int × Int)) : Prop :=
  (∀ (K K' : gm_K) (M M' : gm_M), (∀ k r, r ∈ fp k → K' k = K k) → (∀ k r, r ∈ fp k → ∀ j, r.1 ≤ j → j ≤ r.2 → M' k j = M k j) → J K M → J K' M') ∧ ∀ g, gh = some g → (∀ (K : gm_K) (M : gm_M), J K M → M 0 4 = M g.1 g.2.1 - M g.1 g.2.2 ∧ M 0 5 = M 0 3 + M 0 4 ∧ M 0 3 ≤ M g.1 g.2.2) ∧ (1 ≤ g.1 ∧ ¬ g.2.1 = g.2.2) ∧ ∀ (K : gm_K) (M M' : gm_M), J K M → (∀ c j, ¬ (c = g.1 ∧ (j = g.2.1 ∨ j = g.2.2)) → ¬ (c = 0 ∧ (j = 3 ∨ j = 4 ∨ j = 5)) → M' c j = M c j) → M' 0 4 = M' g.1 g.2.1 - M' g.1 g.2.2 → M' 0 5 = M' 0 3 + M' 0 4 → M' 0 3 - M' g.1 g.2.2 = M 0 3 - M g.1 g.2.2 → J K M'
/-- types; stretches that nothing writes; what is said of them; names of cells' numbers at a method's begin; cells that are counted with others -/
def gm_O3 : Type := { q : (Nat → List (Int × Int × Int × Int)) × (Nat → List (Int × Int)) × gm_JJ × List (Nat × Nat × Int) × Option (Nat × Int × Int) // gm_hP q.2.1 q.2.2.1 q.2.2.2.2 }
def gm_O3.ty (o : gm_O3) : Nat → List (Int × Int × Int × Int) := o.1.1
def gm_O3.fp (o : gm_O3) : Nat → List (Int × Int) := o.1.2.1
def gm_O3.J (o : gm_O3) : gm_JJ := o.1.2.2.1
def gm_O3.nm (o : gm_O3) : List (Nat × Nat × Int) := o.1.2.2.2.1
def gm_O3.gh (o : gm_O3) : Option (Nat × Int × Int) := o.1.2.2.2.2
theorem gm_O3.hJ (o : gm_O3) : ∀ (K K' : gm_K) (M M' : gm_M), (∀ k r, r ∈ o.fp k → K' k = K k) → (∀ k r, r ∈ o.fp k → ∀ j, r.1 ≤ j → j ≤ r.2 → M' k j = M k j) → o.J K M → o.J K' M' := o.2.1
theorem gm_O3.hG (o : gm_O3) : ∀ g, o.gh = some g → (∀ (K : gm_K) (M : gm_M), o.J K M → M 0 4 = M g.1 g.2.1 - M g.1 g.2.2 ∧ M 0 5 = M 0 3 + M 0 4 ∧ M 0 3 ≤ M g.1 g.2.2) ∧ (1 ≤ g.1 ∧ ¬ g.2.1 = g.2.2) ∧ ∀ (K : gm_K) (M M' : gm_M), o.J K M → (∀ c j, ¬ (c = g.1 ∧ (j = g.2.1 ∨ j = g.2.2)) → ¬ (c = 0 ∧ (j = 3 ∨ j = 4 ∨ j = 5)) → M' c j = M c j) → M' 0 4 = M' g.1 g.2.1 - M' g.1 g.2.2 → M' 0 5 = M' 0 3 + M' 0 4 → M' 0 3 - M' g.1 g.2.2 = M 0 3 - M g.1 g.2.2 → o.J K M' := o.2.2
abbrev gm_Or : Type := (Nat → Option (Nat × Nat)) × (Nat → Int → Option Nat) × gm_O3
/-- kind and length, references, types: from .. to .., least, most -/
def gm_Fx (O : gm_Or) (n : Nat) (K : gm_K) (R : gm_R) (M : gm_M) : Prop :=
  (∀ k q, O.1 k = some q → 1 ≤ k ∧ k ≤ n ∧ K k = q) ∧ (∀ k j r, O.2.1 k j = some r → k ≤ n ∧ R k j = r) ∧ (∀ k r, r ∈ O.2.2.ty k → k ≤ n ∧ ∀ j, r.1 ≤ j → j ≤ r.2.1 → (-2147483648 ≤ M k j ∧ M k j < 2147483648) ∧ r.2.2.1 ≤ M k j ∧ M k j ≤ r.2.2.2) ∧ (∀ k r, r ∈ O.2.2.fp k → k ≤ n) ∧ O.2.2.J K M
/-- a write of a number between a and b, at a place between lo and hi, keeps the types of the cell k -/
noncomputable def gm_fpw (O : gm_Or) (k : Nat) (lo hi : Int) : Bool := fl_all (O.2.2.fp k) fun r => fl_if (fl_lt hi r.1) true (fl_lt r.2 lo)
theorem gm_fpw_def {O : gm_Or} {k : Nat} {lo hi : Int} : gm_fpw O k lo hi = (O.2.2.fp k).all fun r => decide (hi < r.1) || decide (r.2 < lo) := by
  simp only [gm_fpw, fl_and, fl_or, fl_beq, fl_blt, fl_le_eq, fl_lt_eq, fl_ie_eq, fl_any_eq, fl_all_eq, fl_find_eq, fl_lk_eq, fl_nth_eq]
noncomputable def gm_tyw (O : gm_Or) (k : Nat) (lo hi a b : Int) : Bool := fl_if (gm_fpw O k lo hi) (fl_all (O.2.2.ty k) fun r => fl_if (fl_lt hi r.1) true (fl_if (fl_lt r.2.1 lo) true (fl_if (fl_le r.2.2.1 a) (fl_if (fl_le b r.2.2.2) (fl_if (fl_le (-2147483648) a) (fl_lt b 2147483648) false) false) false))) false
theorem gm_tyw_def {O : gm_Or} {k : Nat} {lo hi a b : Int} : gm_tyw O k lo hi a b = (gm_fpw O k lo hi && (O.2.2.ty k).all fun r => decide (hi < r.1) || (decide (r.2.1 < lo) || (decide (r.2.2.1 ≤ a) && (decide (b ≤ r.2.2.2) && (decide (-2147483648 ≤ a) && decide (b < 2147483648)))))) := by
  simp only [gm_tyw, fl_and, fl_or, fl_beq, fl_blt, fl_le_eq, fl_lt_eq, fl_ie_eq, fl_any_eq, fl_all_eq, fl_find_eq, fl_lk_eq, fl_nth_eq]
theorem gm_J_M {O : gm_Or} {K : gm_K} {M : gm_M} {k : Nat} {j v lo hi : Int} (hJ : O.2.2.J K M) (h : gm_fpw O k lo hi = true) (h1 : lo ≤ j) (h2 : j ≤ hi) : O.2.2.J K (gm_uM M k j v) := by
  refine O.2.2.hJ K K M _ (fun _ _ _ => rfl) (fun c r hr i h3 h4 => ?_) hJ
  unfold gm_uM
  rw [if_neg]
  rintro ⟨rfl, rfl⟩
  have h7 := List.all_eq_true.mp (gm_fpw_def.symm.trans h) r hr
  simp only [Bool.or_eq_true, decide_eq_true_eq] at h7
  omega
theorem gm_Fx_M {O : gm_Or} {n : Nat} {K : gm_K} {R : gm_R} {M : gm_M} {k : Nat} {j v lo hi a b : Int} (hF : gm_Fx O n K R M) (h : gm_tyw O k lo hi a b = true) (h1 : lo ≤ j) (h2 : j ≤ hi) (h3 : a ≤ v) (h4 : v ≤ b) : gm_Fx O n K R (gm_uM M k j v) := by
  rw [gm_tyw_def] at h
  rw [Bool.and_eq_true] at h
  refine ⟨hF.1, hF.2.1, fun c r hr => ?_, hF.2.2.2.1, gm_J_M hF.2.2.2.2 h.1 h1 h2⟩
  obtain ⟨g1, g2⟩ := hF.2.2.1 c r hr
  refine ⟨g1, fun i h5 h6 => ?_⟩
  unfold gm_uM
  split
  · rename_i e
    obtain ⟨rfl, rfl⟩ := e
    have h7 := List.all_eq_true.mp h.2 r hr
    simp only [Bool.or_eq_true, Bool.and_eq_true, decide_eq_true_eq] at h7
    rcases h7 with h7 | h7 | ⟨h7, h8, h9, h10⟩
    · omega
    · omega
    · exact ⟨⟨by omega, by omega⟩, by omega, by omega⟩
  · exact g2 i h5 h6
theorem gm_Fx_E {O : gm_Or} {n : Nat} {K : gm_K} {R : gm_R} {M : gm_M} {k : Nat} {j v : Int} (hF : gm_Fx O n K R M) (h : ((O.2.2.ty k).isEmpty && (O.2.2.fp k).isEmpty) = true) : gm_Fx O n K R (gm_uM M k j v) := by
  rw [Bool.and_eq_true] at h
  refine ⟨hF.1, hF.2.1, fun c r hr => ?_, hF.2.2.2.1, gm_J_M (lo := j) (hi := j) hF.2.2.2.2 ?_ (Int.le_refl _) (Int.le_refl _)⟩
  · obtain ⟨g1, g2⟩ := hF.2.2.1 c r hr
    refine ⟨g1, fun i h5 h6 => ?_⟩
    unfold gm_uM
    split
    · rename_i e
      obtain ⟨rfl, rfl⟩ := e
      rw [List.isEmpty_iff.mp h.1] at hr
      cases hr
    · exact g2 i h5 h6
  · rw [gm_fpw_def]
    rw [List.isEmpty_iff.mp h.2]
    rfl
/-- the types alone -/
noncomputable def gm_tyv (O : gm_Or) (k : Nat) (lo hi a b : Int) : Bool := fl_all (O.2.2.ty k) fun r => fl_if (fl_lt hi r.1) true (fl_if (fl_lt r.2.1 lo) true (fl_if (fl_le r.2.2.1 a) (fl_if (fl_le b r.2.2.2) (fl_if (fl_le (-2147483648) a) (fl_lt b 2147483648) false) false) false))
theorem gm_tyv_def {O : gm_Or} {k : Nat} {lo hi a b : Int} : gm_tyv O k lo hi a b = (O.2.2.ty k).all fun r => decide (hi < r.1) || (decide (r.2.1 < lo) || (decide (r.2.2.1 ≤ a) && (decide (b ≤ r.2.2.2) && (decide (-2147483648 ≤ a) && decide (b < 2147483648))))) := by
  simp only [gm_tyv, fl_and, fl_or, fl_beq, fl_blt, fl_le_eq, fl_lt_eq, fl_ie_eq, fl_any_eq, fl_all_eq, fl_find_eq, fl_lk_eq, fl_nth_eq]
theorem gm_Fx_G {O : gm_Or} {n : Nat} {K : gm_K} {R : gm_R} {M M' : gm_M} {k : Nat} {j v a b : Int} (hF : gm_Fx O n K R M) (h : gm_tyv O k j j a b = true) (h0 : (O.2.2.ty 0).isEmpty = true) (h3 : a ≤ v) (h4 : v ≤ b) (hM : ∀ c i, 1 ≤ c → M' c i = gm_uM M k j v c i) (hJ : O.2.2.J K M') : gm_Fx O n K R M' := by
  refine ⟨hF.1, hF.2.1, fun c r hr => ?_, hF.2.2.2.1, hJ⟩
  obtain ⟨g1, g2⟩ := hF.2.2.1 c r hr
  refine ⟨g1, fun i h5 h6 => ?_⟩
  have hc : 1 ≤ c := by
    cases c with
    | zero => rw [List.isEmpty_iff.mp h0] at hr; cases hr
    | succ c => omega
  rw [hM c i hc]
  unfold gm_uM
  split
  · rename_i e
    obtain ⟨rfl, rfl⟩ := e
    have h7 := List.all_eq_true.mp (gm_tyv_def.symm.trans h) r hr
    simp only [Bool.or_eq_true, Bool.and_eq_true, decide_eq_true_eq] at h7
    rcases h7 with h7 | h7 | ⟨h7, h8, h9, h10⟩
    · omega
    · omega
    · exact ⟨⟨by omega, by omega⟩, by omega, by omega⟩
  · exact g2 i h5 h6
theorem gm_Fx_R {O : gm_Or} {n : Nat} {K : gm_K} {R : gm_R} {M : gm_M} {k : Nat} {j : Int} {v : Nat} (hF : gm_Fx O n K R M) (h : O.2.1 k j = none) : gm_Fx O n K (gm_uR R k j v) M := by
  refine ⟨hF.1, fun a b x hx => ?_, hF.2.2.1, hF.2.2.2⟩
  obtain ⟨h1, h3⟩ := hF.2.1 a b x hx
  refine ⟨h1, ?_⟩
  unfold gm_uR
  split
  · rename_i e
    obtain ⟨rfl, rfl⟩ := e
    rw [h] at hx; cases hx
  · exact h3
theorem gm_Fx_n {O : gm_Or} {n kd len : Nat} {K : gm_K} {R : gm_R} {M : gm_M} (hF : gm_Fx O n K R M) : gm_Fx O (n + 1) (gm_nK K n kd len) (gm_nR R n) (gm_nM M n) := by
  refine ⟨fun k q h => ?_, fun k j r h => ?_, fun k r h => ?_, fun k r h => ?_, O.2.2.hJ K _ M _ (fun k r h => ?_) (fun k r h j _ _ => ?_) hF.2.2.2.2⟩
  · obtain ⟨h1, h2, h3⟩ := hF.1 k q h
    exact ⟨h1, by omega, by unfold gm_nK; rw [if_neg (by omega)]; exact h3⟩
  · obtain ⟨h1, h2⟩ := hF.2.1 k j r h
    exact ⟨by omega, by unfold gm_nR; rw [if_neg (by omega)]; exact h2⟩
  · obtain ⟨h1, h2⟩ := hF.2.2.1 k r h
    refine ⟨by omega, fun j h3 h4 => ?_⟩
    unfold gm_nM
    rw [if_neg (by omega)]
    exact h2 j h3 h4
  · have := hF.2.2.2.1 k r h; omega
  · have := hF.2.2.2.1 k r h
    unfold gm_nK
    rw [if_neg (by omega)]
  · have := hF.2.2.2.1 k r h
    unfold gm_nM
    rw [if_neg (by omega)]
/-- what the types say of a stretch -/
noncomputable def gm_tyq (l : List (Int × Int × Int × Int)) : Nat → Int → Int → Option (Int × Int)
  | 0, _, _ => none
  | f + 1, lo, hi => match fl_find l fun r => fl_if (fl_le r.1 lo) (fl_le lo r.2.1) false with
    | none => none
    | some r => if hi ≤ r.2.1 then some (r.2.2.1, r.2.2.2) else (match gm_tyq l f (r.2.1 + 1) hi with
      | some q => some (if r.2.2.1 ≤ q.1 then r.2.2.1 else q.1, if r.2.2.2 ≤ q.2 then q.2 else r.2.2.2)
      | none => none)
noncomputable def gm_tyr (O : gm_Or) (k : Nat) (lo hi : Int) : Option (Int × Int) := gm_tyq (O.2.2.ty k) 400 lo hi
theorem gm_tyq_s {O : gm_Or} {n : Nat} {K : gm_K} {R : gm_R} {M : gm_M} {k : Nat} (hF : gm_Fx O n K R M) : ∀ (f : Nat) (lo hi : Int) (q : Int × Int), gm_tyq (O.2.2.ty k) f lo hi = some q → k ≤ n ∧ ∀ j, lo ≤ j → j ≤ hi → (-2147483648 ≤ M k j ∧ M k j < 2147483648) ∧ q.1 ≤ M k j ∧ M k j ≤ q.2 := by
  intro f
  induction f with
  | zero => intro lo hi q h; cases h
  | succ f ih =>
    intro lo hi q h
    unfold gm_tyq at h
    simp only [fl_and, fl_or, fl_beq, fl_blt, fl_le_eq, fl_lt_eq, fl_ie_eq, fl_any_eq, fl_all_eq, fl_find_eq, fl_lk_eq, fl_nth_eq] at h
    cases hr : (O.2.2.ty k).find? fun r => decide (r.1 ≤ lo) && decide (lo ≤ r.2.1) with
    | none => rw [hr] at h; cases h
    | some r =>
      rw [hr] at h
      dsimp only at h
      have h1 := List.find?_some hr
      simp only [Bool.and_eq_true, decide_eq_true_eq] at h1
      obtain ⟨h2, h3⟩ := hF.2.2.1 k r (List.mem_of_find?_eq_some hr)
      split at h
      · cases h
        exact ⟨h2, fun j h4 h5 => h3 j (by omega) (by omega)⟩
      · cases hq : gm_tyq (O.2.2.ty k) f (r.2.1 + 1) hi with
        | none => rw [hq] at h; cases h
        | some p =>
          rw [hq] at h
          dsimp only at h
          cases h
          obtain ⟨-, h6⟩ := ih _ _ _ hq
          refine ⟨h2, fun j h4 h5 => ?_⟩
          by_cases e : j ≤ r.2.1
          · obtain ⟨g1, g2, g3⟩ := h3 j (by omega) e
            refine ⟨g1, ?_, ?_⟩
            · dsimp only; split <;> omega
            · dsimp only; split <;> omega
          · obtain ⟨g1, g2, g3⟩ := h6 j (by omega) h5
            refine ⟨g1, ?_, ?_⟩
            · dsimp only; split <;> omega
            · dsimp only; split <;> omega
theorem gm_tyr_s {O : gm_Or} {n : Nat} {K : gm_K} {R : gm_R} {M : gm_M} {k : Nat} {lo hi : Int} {q : Int × Int} (hF : gm_Fx O n K R M) (h : gm_tyr O k lo hi = some q) : k ≤ n ∧ ∀ j, lo ≤ j → j ≤ hi → (-2147483648 ≤ M k j ∧ M k j < 2147483648) ∧ q.1 ≤ M k j ∧ M k j ≤ q.2 := gm_tyq_s hF _ _ _ _ h
def gm_ir (x : Int) : Prop := -2147483648 ≤ x ∧ x < 2147483648
/-- a comparison of numbers that are ints -/
def gm_cm : ClassFile.Cond → Int → Int → Prop
  | .eq, x, y => x = y
  | .ne, x, y => ¬ x = y
  | .lt, x, y => x < y
  | .ge, x, y => y ≤ x
  | .gt, x, y => y < x
  | .le, x, y => x ≤ y
theorem gm_ir_w {x : Int} (h : gm_ir x) : gm_w x = x := gm_w_id h.1 h.2
theorem gm_cm_w {c : ClassFile.Cond} {x y : Int} (hx : gm_ir x) (hy : gm_ir y) : gm_cmp c x y = gm_cm c x y := by
  cases c <;> simp only [gm_cmp, gm_cm, gm_ir_w hx, gm_ir_w hy]
def gm_and (x y : Int) : Int := (Int32.ofInt x &&& Int32.ofInt y).toInt
def gm_or (x y : Int) : Int := (Int32.ofInt x ||| Int32.ofInt y).toInt
def gm_xor (x y : Int) : Int := (Int32.ofInt x ^^^ Int32.ofInt y).toInt
def gm_shl (x y : Int) : Int := (Int32.ofInt x <<< (Int32.ofInt y &&& 31)).toInt
def gm_shr (x y : Int) : Int := (Int32.ofInt x >>> (Int32.ofInt y &&& 31)).toInt
def gm_ushr (x y : Int) : Int := ((Int32.ofInt x).toUInt32 >>> ((Int32.ofInt y).toUInt32 &&& Int32.toUInt32 31)).toInt32.toInt
def gm_land (x y : Int) : Int := (Int64.ofInt x &&& Int64.ofInt y).toInt
def gm_lor (x y : Int) : Int := (Int64.ofInt x ||| Int64.ofInt y).toInt
def gm_lxor (x y : Int) : Int := (Int64.ofInt x ^^^ Int64.ofInt y).toInt
/-- is here a throw: the class, and nothing else -/
noncomputable def gm_isx (mi pc ix : Nat) : Option Nat := match gm_xlk (gm_ow mi) ix, gm_at mi (pc + 3), gm_at mi (pc + 4) with
  | some q, some .dup, some (.ldc is) => if (gm_sld (gm_ow mi) is).isSome = true ∧ gm_at mi (pc + 6) = some (.invokespecial q.2) ∧ gm_at mi (pc + 9) = some .athrow then some q.1 else none
  | some q, some .dup, some (.ldc_w is) => if (gm_sld (gm_ow mi) is).isSome = true ∧ gm_at mi (pc + 7) = some (.invokespecial q.2) ∧ gm_at mi (pc + 10) = some .athrow then some q.1 else none
  | _, _, _ => none
section GS2
variable {X : Int → Int} {LX d bc bs mi pc : Nat} {L : gm_L} {st : List gm_V} {n : Nat} {K : gm_K} {R : gm_R} {M : gm_M} {Q Q' : gm_Q}
theorem gm_Wp_mono (hQ : ∀ o n K R M, Q o n K R M → Q' o n K R M) (h : gm_Wp X LX d bc bs mi pc L st n K R M Q) : gm_Wp X LX d bc bs mi pc L st n K R M Q' := by
  intro p l e Rm s m args below meth c D ti adK adV A α0 n0 mc ms hcx hev hd hd2 hmc hms hA α H locs cells slots ls sv hxt hc1 hc2 hR hL hS T hT Xs
  obtain ⟨t, a1, o, b1, b2, b3⟩ := h p l e Rm s m args below meth c D ti adK adV A α0 n0 mc ms hcx hev hd hd2 hmc hms hA α H locs cells slots ls sv hxt hc1 hc2 hR hL hS T hT Xs
  refine ⟨t, a1, o, b1, b2, ?_⟩
  rcases b3 with ⟨⟨⟨v, u, α', n', K', R', M', e1, e2, e3, e4⟩, e5⟩, e6⟩ | ⟨q, rfl, E1, ce, L1, ⟨⟨x, α', n', K', R', M', e1, e2, e3, e4⟩, e5⟩, e6⟩
  · exact Or.inl ⟨⟨⟨v, u, α', n', K', R', M', e1, e2, hQ _ _ _ _ _ e3, e4⟩, e5⟩, e6⟩
  · exact Or.inr ⟨q, rfl, E1, ce, L1, ⟨⟨x, α', n', K', R', M', e1, e2, hQ _ _ _ _ _ e3, e4⟩, e5⟩, e6⟩
theorem gm_Wp_wk {d' bc' bs' : Nat} (hd : d' ≤ d) (h1 : bc' ≤ bc) (h2 : bs' ≤ bs) (h : gm_Wp X LX d' bc' bs' mi pc L st n K R M Q) : gm_Wp X LX d bc bs mi pc L st n K R M Q := by
  intro p l e Rm s m args below meth c D ti adK adV A α0 n0 mc ms hcx hev hd1 hd2 hmc hms hA α H locs cells slots ls sv hxt hc1 hc2 hR hL hS
  exact h p l e Rm s m args below meth c D ti adK adV A α0 n0 mc ms hcx hev (Nat.le_trans hd hd1) (Nat.le_trans (Nat.mul_le_mul_right 300 hd) hd2) hmc hms hA α H locs cells slots ls sv hxt (Nat.le_trans (Nat.add_le_add_left h1 _) hc1) (Nat.le_trans (Nat.add_le_add_left h2 _) hc2) hR hL hS
/-- cell 0 is no cell -/
theorem gm_wl_g {ti : Nat → ClassId} {α : Nat → Nat} {n : Nat} {K : gm_K} {R : gm_R} {M M' : gm_M} (h : ∀ c i, 1 ≤ c → M' c i = M c i) : gm_wl ti α n K R M' = gm_wl ti α n K R M := by
  refine gm_wl_ext (fun k h1 h2 => ⟨rfl, ?_⟩)
  have e : M' k = M k := funext fun i => h k i h1
  have e2 : gm_fs α R M' k = gm_fs α R M k := by
    funext c
    unfold gm_fs
    rw [e]
  unfold gm_en
  rw [e, e2]
theorem gm_Wp_g {M' : gm_M} (hM : ∀ c i, 1 ≤ c → M' c i = M c i) (h : gm_Wp X LX d bc bs mi pc L st n K R M' Q) : gm_Wp X LX d bc bs mi pc L st n K R M Q := by
  intro p l e Rm s m args below meth c D ti adK adV A α0 n0 mc ms hcx hev hd hd2 hmc hms hA α H locs cells slots ls sv hxt hc1 hc2 hR hL hS
  refine h p l e Rm s m args below meth c D ti adK adV A α0 n0 mc ms hcx hev hd hd2 hmc hms hA α H locs cells slots ls sv hxt hc1 hc2 ?_ hL hS
  unfold gm_Rl at hR ⊢
  rw [gm_wl_g hM]
  exact hR
theorem gm_cio_spec {i : Nat} (hi : i < 370) (h : gm_cio i < 12) : gm_cn (gm_cio i) = (gm_mn i).cls := by
  have := List.all_eq_true.mp gm_cio_ok i (List.mem_range.mpr (by omega))
  simp only [Bool.or_eq_true, Bool.and_eq_true, decide_eq_true_eq] at this
  rcases this with h1 | h1
  · omega
  · exact h1.2
theorem gm_isx_of {ix x : Nat} (h : gm_isx mi pc ix = some x) : ∃ (ic is id : Nat) (lw : Bool), gm_xlk (gm_ow mi) ix = some (x, ic) ∧ gm_at mi (pc + 3) = some .dup ∧ gm_at mi (pc + 4) = some (if lw = true then .ldc_w is else .ldc is) ∧ gm_at mi (pc + (if lw = true then 7 else 6)) = some (.invokespecial ic) ∧ gm_at mi (pc + (if lw = true then 10 else 9)) = some .athrow ∧ gm_sld (gm_ow mi) is = some id := by
  unfold gm_isx at h
  split at h
  · rename_i q is e1 e2 e3
    obtain ⟨q1, q2⟩ := q
    split at h
    · rename_i e4
      cases h
      obtain ⟨id, hid⟩ := Option.isSome_iff_exists.mp e4.1
      exact ⟨q2, is, id, false, e1, e2, e3, e4.2.1, e4.2.2, hid⟩
    · cases h
  · rename_i q is e1 e2 e3
    obtain ⟨q1, q2⟩ := q
    split at h
    · rename_i e4
      cases h
      obtain ⟨id, hid⟩ := Option.isSome_iff_exists.mp e4.1
      exact ⟨q2, is, id, true, e1, e2, e3, e4.2.1, e4.2.2, hid⟩
    · cases h
  · cases h
theorem gm_cn1 : gm_cn 1 = "GlacierMail$State" := by decide +kernel
end GS2
