/-! ONE INSTRUCTION as a formula. -/
def gm_mask : List Bool → gm_L → gm_L
  | _, [] => []
  | [], _ :: vs => none :: gm_mask [] vs
  | b :: bs, v :: vs => (if b = true then v else none) :: gm_mask bs vs
def gm_and (x y : Int) : Int := (Int32.ofInt x &&& Int32.ofInt y).toInt
def gm_or (x y : Int) : Int := (Int32.ofInt x ||| Int32.ofInt y).toInt
def gm_xor (x y : Int) : Int := (Int32.ofInt x ^^^ Int32.ofInt y).toInt
def gm_shl (x y : Int) : Int := (Int32.ofInt x <<< (Int32.ofInt y &&& 31)).toInt
def gm_shr (x y : Int) : Int := (Int32.ofInt x >>> (Int32.ofInt y &&& 31)).toInt
def gm_ushr (x y : Int) : Int := ((Int32.ofInt x).toUInt32 >>> ((Int32.ofInt y).toUInt32 &&& Int32.toUInt32 31)).toInt32.toInt
def gm_land (x y : Int) : Int := (Int64.ofInt x &&& Int64.ofInt y).toInt
def gm_lor (x y : Int) : Int := (Int64.ofInt x ||| Int64.ofInt y).toInt
def gm_lxor (x y : Int) : Int := (Int64.ofInt x ^^^ Int64.ofInt y).toInt
def gm_lshl (x y : Int) : Int := (Int64.ofInt x <<< ((Int32.ofInt y).toInt64 &&& 63)).toInt
def gm_lushr (x y : Int) : Int := ((Int64.ofInt x).toUInt64 >>> ((Int32.ofInt y).toInt64.toUInt64 &&& Int64.toUInt64 63)).toInt64.toInt
def gm_swx (x : Int) (f : Nat → Prop) (pc : Nat) : List Int → Int → Prop
  | [], _ => True
  | o :: os, v => (x = v → f (gm_tgt pc o)) ∧ gm_swx x f pc os (v + 1)
theorem gm_swx_t {x : Int} {f g : Nat → Prop} {pc : Nat} (hx : gm_w x = x) (hf : ∀ q, f q → g q) : ∀ (os : List Int) (v : Int), gm_swx x f pc os v → gm_swt x g pc os v := by
  intro os
  induction os with
  | nil => intro v _; trivial
  | cons o os ih => intro v h; exact ⟨fun e => hf _ (h.1 (by rw [← e, hx])), ih _ h.2⟩
/-- the class and the number of a field, as the code names it -/
def gm_fd1 (o ix : Nat) : Option (Nat × Nat) := (((gm_fo[o]?).getD []).find? (fun q => decide (q.1.1 = ix))).map (fun q => (q.1.2, q.2))
/-- the field of the cell k0: its class and number, in the fixed part or owed -/
def gm_fat (O : gm_Or) (mi ix k0 n : Nat) (K : gm_K) (g : Nat → Nat → Prop) : Prop := match O.1 k0 with
  | some q => match gm_fld (gm_ow mi) ix (q.1 - 4) with
    | some j => if 4 ≤ q.1 then g (q.1 - 4) j else False
    | none => False
  | none => match gm_fd1 (gm_ow mi) ix with
    | some q => (1 ≤ k0 ∧ k0 ≤ n ∧ (K k0).1 = q.1 + 4) ∧ (if gm_fld (gm_ow mi) ix q.1 = some q.2 then g q.1 q.2 else False)
    | none => False
theorem gm_fat_of {O : gm_Or} {mi ix k0 n : Nat} {K : gm_K} {R : gm_R} {M : gm_M} {g : Nat → Nat → Prop} (hF : gm_Fx O n K R M) (h : gm_fat O mi ix k0 n K g) : ∃ ci j, (1 ≤ k0 ∧ k0 ≤ n) ∧ (K k0).1 = ci + 4 ∧ gm_fld (gm_ow mi) ix ci = some j ∧ g ci j := by
  unfold gm_fat at h
  cases hq : O.1 k0 with
  | some q =>
    rw [hq] at h
    obtain ⟨h1, h2, h3⟩ := hF.1 k0 q hq
    dsimp only at h
    cases hf : gm_fld (gm_ow mi) ix (q.1 - 4) with
    | none => rw [hf] at h; exact h.elim
    | some j =>
      rw [hf] at h
      dsimp only at h
      split at h
      · rename_i h4
        exact ⟨q.1 - 4, j, ⟨h1, h2⟩, by rw [h3]; omega, hf, h⟩
      · exact h.elim
  | none =>
    rw [hq] at h
    dsimp only at h
    cases hf : gm_fd1 (gm_ow mi) ix with
    | none => rw [hf] at h; exact h.elim
    | some q =>
      rw [hf] at h
      obtain ⟨⟨h1, h2, h3⟩, h4⟩ := h
      split at h4
      · rename_i h5
        exact ⟨q.1, q.2, ⟨h1, h2⟩, h3, h5, h4⟩
      · exact h4.elim
/-- is here a throw: the class, and nothing else -/
def gm_isx (mi pc ix : Nat) : Option Nat := match gm_xlk (gm_ow mi) ix, gm_at mi (pc + 3), gm_at mi (pc + 4) with
  | some q, some .dup, some (.ldc is) => if (gm_sld (gm_ow mi) is).isSome = true ∧ gm_at mi (pc + 6) = some (.invokespecial q.2) ∧ gm_at mi (pc + 9) = some .athrow then some q.1 else none
  | some q, some .dup, some (.ldc_w is) => if (gm_sld (gm_ow mi) is).isSome = true ∧ gm_at mi (pc + 7) = some (.invokespecial q.2) ∧ gm_at mi (pc + 10) = some .athrow then some q.1 else none
  | _, _, _ => none
/-- a call: what is owed, and the way on -/
def gm_wc (P : List (Nat × gm_Pu)) (E : List (Nat × gm_Sc)) (Q : gm_Q) (d bc bs mj : Nat) (vs rest : List gm_V) (n : Nat) (K : gm_K) (R : gm_R) (M : gm_M) (k : Nat → Nat → List gm_V → Nat → gm_K → gm_R → gm_M → Prop) : Prop := match P.lookup mj with
  | some pu => if pu.1 + 1 ≤ d then pu.2.1 vs n K R M ∧ k bc bs ((pu.2.2 vs n K R M).toList ++ rest) n K R M else False
  | none => match E.lookup mj with
    | some sc => if sc.1 + 1 ≤ d then (sc.2.1 ≤ bc ∧ sc.2.2.1 ≤ bs ∧ sc.2.2.2.1 vs n K R M) ∧ ∀ o n' K' R' M', sc.2.2.2.2 vs n K R M o n' K' R' M' → match o with
        | .inl u => k (bc - sc.2.1) (bs - sc.2.2.1) (u.toList ++ rest) n' K' R' M'
        | .inr x => Q (.inr x) n' K' R' M' else False
    | none => False
def gm_alls (vs : List gm_V) : Bool := vs.all fun v => decide (¬ gm_sort v = 1)
/-- one instruction; k is the way on: cells, slots, place, locals, stack, cells of the heap -/
def gm_wi (O : gm_Or) (X : Int → Int) (LX : Nat) (P : List (Nat × gm_Pu)) (E : List (Nat × gm_Sc)) (mi : Nat) (Q : gm_Q) (d bc bs pc : Nat) (L : gm_L) (st : List gm_V) (n : Nat) (K : gm_K) (R : gm_R) (M : gm_M) (k : Nat → Nat → Nat → gm_L → List gm_V → Nat → gm_K → gm_R → gm_M → Prop) : Instr → Prop
  | .iconst z => k bc bs (pc + 1) L (gm_vi z :: st) n K R M
  | .bipush z => k bc bs (pc + 2) L (gm_vi (gm_wb z) :: st) n K R M
  | .sipush z => k bc bs (pc + 3) L (gm_vi (gm_ws z) :: st) n K R M
  | .lconst z => k bc bs (pc + 1) L (gm_vl (z : Nat) :: st) n K R M
  | .aconst_null => k bc bs (pc + 1) L (gm_vr 0 :: st) n K R M
  | .iload j => gm_ld L 0 j fun v => k bc bs (pc + 2) L (v :: st) n K R M
  | .iload_n j => gm_ld L 0 j fun v => k bc bs (pc + 1) L (v :: st) n K R M
  | .lload j => gm_ld L 1 j fun v => k bc bs (pc + 2) L (v :: st) n K R M
  | .lload_n j => gm_ld L 1 j fun v => k bc bs (pc + 1) L (v :: st) n K R M
  | .aload j => gm_ld L 2 j fun v => k bc bs (pc + 2) L (v :: st) n K R M
  | .aload_n j => gm_ld L 2 j fun v => k bc bs (pc + 1) L (v :: st) n K R M
  | .istore j => gm_sto L 0 j st fun L' st' => k bc bs (pc + 2) L' st' n K R M
  | .istore_n j => gm_sto L 0 j st fun L' st' => k bc bs (pc + 1) L' st' n K R M
  | .lstore j => gm_sto L 1 j st fun L' st' => k bc bs (pc + 2) L' st' n K R M
  | .lstore_n j => gm_sto L 1 j st fun L' st' => k bc bs (pc + 1) L' st' n K R M
  | .astore j => gm_sto L 2 j st fun L' st' => k bc bs (pc + 2) L' st' n K R M
  | .astore_n j => gm_sto L 2 j st fun L' st' => k bc bs (pc + 1) L' st' n K R M
  | .iadd => gm_two2 st fun x y st => k bc bs (pc + 1) L (gm_vi (x + y) :: st) n K R M
  | .isub => gm_two2 st fun x y st => k bc bs (pc + 1) L (gm_vi (x - y) :: st) n K R M
  | .imul => gm_two2 st fun x y st => k bc bs (pc + 1) L (gm_vi (x * y) :: st) n K R M
  | .iand => gm_two2 st fun x y st => k bc bs (pc + 1) L (gm_vi (gm_and x y) :: st) n K R M
  | .ior => gm_two2 st fun x y st => k bc bs (pc + 1) L (gm_vi (gm_or x y) :: st) n K R M
  | .ixor => gm_two2 st fun x y st => k bc bs (pc + 1) L (gm_vi (gm_xor x y) :: st) n K R M
  | .ishl => gm_two2 st fun x y st => k bc bs (pc + 1) L (gm_vi (gm_shl x y) :: st) n K R M
  | .ishr => gm_two2 st fun x y st => k bc bs (pc + 1) L (gm_vi (gm_shr x y) :: st) n K R M
  | .iushr => gm_two2 st fun x y st => k bc bs (pc + 1) L (gm_vi (gm_ushr x y) :: st) n K R M
  | .idiv => gm_two2 st fun x y st => (gm_ir x ∧ gm_ir y ∧ ¬ y = 0) ∧ k bc bs (pc + 1) L (gm_vi (Int.tdiv x y) :: st) n K R M
  | .irem => gm_two2 st fun x y st => (gm_ir x ∧ gm_ir y ∧ ¬ y = 0) ∧ k bc bs (pc + 1) L (gm_vi (Int.tmod x y) :: st) n K R M
  | .ineg => gm_one st fun x st => k bc bs (pc + 1) L (gm_vi (- x) :: st) n K R M
  | .i2b => gm_one st fun x st => k bc bs (pc + 1) L (gm_vi (gm_wb x) :: st) n K R M
  | .i2l => gm_one st fun x st => gm_ir x ∧ k bc bs (pc + 1) L (gm_vl x :: st) n K R M
  | .l2i => match st with
    | .inr (.inl x) :: st => k bc bs (pc + 1) L (gm_vi x :: st) n K R M
    | _ => False
  | .land => gm_twl st fun x y st => k bc bs (pc + 1) L (gm_vl (gm_land x y) :: st) n K R M
  | .lor => gm_twl st fun x y st => k bc bs (pc + 1) L (gm_vl (gm_lor x y) :: st) n K R M
  | .lxor => gm_twl st fun x y st => k bc bs (pc + 1) L (gm_vl (gm_lxor x y) :: st) n K R M
  | .lshl => gm_lin st fun x y st => k bc bs (pc + 1) L (gm_vl (gm_lshl x y) :: st) n K R M
  | .lushr => gm_lin st fun x y st => k bc bs (pc + 1) L (gm_vl (gm_lushr x y) :: st) n K R M
  | .lcmp => gm_twl st fun x y st => k bc bs (pc + 1) L (gm_vi (gm_lcm x y) :: st) n K R M
  | .dup => match st with
    | v :: st => if gm_sort v = 1 then False else k bc bs (pc + 1) L (v :: v :: st) n K R M
    | [] => False
  | .pop => match st with
    | v :: st => if gm_sort v = 1 then False else k bc bs (pc + 1) L st n K R M
    | [] => False
  | .dup2 => match st with
    | v :: u :: st => if gm_sort v = 1 ∨ gm_sort u = 1 then False else k bc bs (pc + 1) L (v :: u :: v :: u :: st) n K R M
    | _ => False
  | .iinc j z => match L[j]? with
    | some (some (.inl x)) => k bc bs (pc + 3) (gm_lst L j (gm_vi (x + z))) st n K R M
    | _ => False
  | .goto off => if 0 ≤ (pc : Int) + off then k bc bs (gm_tgt pc off) L st n K R M else False
  | .ifCond c off => gm_one st fun x st => if 0 ≤ (pc : Int) + off then gm_ir x ∧ (gm_cm c x 0 → k bc bs (gm_tgt pc off) L st n K R M) ∧ (¬ gm_cm c x 0 → k bc bs (pc + 3) L st n K R M) else False
  | .if_icmp c off => gm_two2 st fun x y st => if 0 ≤ (pc : Int) + off then (gm_ir x ∧ gm_ir y) ∧ (gm_cm c x y → k bc bs (gm_tgt pc off) L st n K R M) ∧ (¬ gm_cm c x y → k bc bs (pc + 3) L st n K R M) else False
  | .ifnull off => match st with
    | .inr (.inr (.inl k0)) :: st => if 0 ≤ (pc : Int) + off then (k0 = 0 → k bc bs (gm_tgt pc off) L st n K R M) ∧ (¬ k0 = 0 → k bc bs (pc + 3) L st n K R M) else False
    | _ => False
  | .ifnonnull off => match st with
    | .inr (.inr (.inl k0)) :: st => if 0 ≤ (pc : Int) + off then (¬ k0 = 0 → k bc bs (gm_tgt pc off) L st n K R M) ∧ (k0 = 0 → k bc bs (pc + 3) L st n K R M) else False
    | _ => False
  | .tableswitch df lo hi offs => gm_one st fun x st => if ((offs.size : Nat) : Int) = hi - lo + 1 ∧ 0 ≤ (pc : Int) + df ∧ (offs.toList.all fun o => decide (0 ≤ (pc : Int) + o)) = true then gm_ir x ∧ (x < lo ∨ hi < x → k bc bs (gm_tgt pc df) L st n K R M) ∧ gm_swx x (fun q => k bc bs q L st n K R M) pc offs.toList lo else False
  | .getfield ix => match st with
    | .inr (.inr (.inl k0)) :: st => gm_fat O mi ix k0 n K fun ci j => k bc bs (pc + 3) L ((if gm_isr ci j = true then gm_vr (gm_gR O R k0 j) else gm_vi (gm_gM O M k0 j)) :: st) n K R M
    | _ => False
  | .putfield ix => match st with
    | .inl x :: .inr (.inr (.inl k0)) :: st => gm_fat O mi ix k0 n K fun ci j => if gm_may mi ci j = true ∧ (O.2.2 k0 j).isNone = true then (if gm_fk ci j = 0 then k bc bs (pc + 3) L st n K R (gm_uM M k0 j x) else if gm_fk ci j = 1 then (x = 0 ∨ x = 1) ∧ k bc bs (pc + 3) L st n K R (gm_uM M k0 j x) else False) else False
    | .inr (.inr (.inl r)) :: .inr (.inr (.inl k0)) :: st => gm_fat O mi ix k0 n K fun ci j => if gm_may mi ci j = true ∧ (O.2.1 k0 j).isNone = true ∧ gm_fk ci j = 2 then k bc bs (pc + 3) L st n K (gm_uR R k0 j r) M else False
    | _ => False
  | .iaload => match st with
    | .inl e :: .inr (.inr (.inl k0)) :: st => gm_isK O n K k0 0 ((0 ≤ e ∧ e < gm_len_ O K k0 ∧ gm_ir e) ∧ k bc bs (pc + 1) L (gm_vi (M k0 e) :: st) n K R M)
    | .inl e :: .inr (.inr (.inr c)) :: st => if c = 2000 then (0 ≤ e ∧ e < LX ∧ gm_ir e) ∧ k bc bs (pc + 1) L (gm_vi (X e) :: st) n K R M else False
    | _ => False
  | .baload => match st with
    | .inl e :: .inr (.inr (.inl k0)) :: st => gm_isK O n K k0 1 ((0 ≤ e ∧ e < gm_len_ O K k0 ∧ gm_ir e) ∧ k bc bs (pc + 1) L (gm_vi (M k0 e) :: st) n K R M)
    | _ => False
  | .laload => match st with
    | .inl e :: .inr (.inr (.inl k0)) :: st => gm_isK O n K k0 2 ((0 ≤ e ∧ e < gm_len_ O K k0 ∧ gm_ir e) ∧ k bc bs (pc + 1) L (gm_vl (M k0 e) :: st) n K R M)
    | _ => False
  | .aaload => match st with
    | .inl e :: .inr (.inr (.inl k0)) :: st => gm_isK O n K k0 3 ((0 ≤ e ∧ e < gm_len_ O K k0 ∧ gm_ir e) ∧ k bc bs (pc + 1) L (gm_vr (gm_gR O R k0 e) :: st) n K R M)
    | _ => False
  | .iastore => match st with
    | .inl x :: .inl e :: .inr (.inr (.inl k0)) :: st => gm_isK O n K k0 0 ((0 ≤ e ∧ e < gm_len_ O K k0 ∧ gm_ir e) ∧ k bc bs (pc + 1) L st n K R (gm_uM M k0 e x))
    | _ => False
  | .bastore => match st with
    | .inl x :: .inl e :: .inr (.inr (.inl k0)) :: st => gm_isK O n K k0 1 ((0 ≤ e ∧ e < gm_len_ O K k0 ∧ gm_ir e) ∧ k bc bs (pc + 1) L st n K R (gm_uM M k0 e (gm_wb x)))
    | _ => False
  | .lastore => match st with
    | .inr (.inl x) :: .inl e :: .inr (.inr (.inl k0)) :: st => gm_isK O n K k0 2 ((0 ≤ e ∧ e < gm_len_ O K k0 ∧ gm_ir e) ∧ k bc bs (pc + 1) L st n K R (gm_uM M k0 e x))
    | _ => False
  | .arraylength => match st with
    | .inr (.inr (.inl k0)) :: st => match O.1 k0 with
      | some q => if q.1 ≤ 3 then k bc bs (pc + 1) L (gm_vi (q.2 : Int) :: st) n K R M else False
      | none => (1 ≤ k0 ∧ k0 ≤ n ∧ (K k0).1 ≤ 3) ∧ k bc bs (pc + 1) L (gm_vi ((K k0).2 : Int) :: st) n K R M
    | .inr (.inr (.inr c)) :: st => if c = 2000 then k bc bs (pc + 1) L (gm_vi LX :: st) n K R M else False
    | _ => False
  | .new ix => match gm_new (gm_ow mi) ix with
    | some ci => (1 ≤ bc ∧ gm_nf ci ≤ bs) ∧ k (bc - 1) (bs - gm_nf ci) (pc + 3) L (gm_vr (n + 1) :: st) (n + 1) (gm_nK K n (ci + 4) 0) (gm_nR R n) (gm_nM M n)
    | none => match gm_isx mi pc ix with
      | some x => if 6 ≤ d ∧ (st.map gm_cat).sum ≤ 8 then (1 ≤ bc ∧ 6 ≤ bs) ∧ Q (.inr x) n K R M else False
      | none => False
  | .newarray at0 => gm_one st fun e st => match (match at0 with | .int => some 0 | .byte => some 1 | .long => some 2 | _ => none : Option Nat) with
    | some kd => (0 ≤ e ∧ e < 60000000 ∧ 1 ≤ bc ∧ e.toNat ≤ bs) ∧ k (bc - 1) (bs - e.toNat) (pc + 2) L (gm_vr (n + 1) :: st) (n + 1) (gm_nK K n kd e.toNat) (gm_nR R n) (gm_nM M n)
    | none => False
  | .anewarray ix => gm_one st fun e st => if gm_new (gm_ow mi) ix = some 1 then (0 ≤ e ∧ e < 60000000 ∧ 1 ≤ bc ∧ e.toNat ≤ bs) ∧ k (bc - 1) (bs - e.toNat) (pc + 3) L (gm_vr (n + 1) :: st) (n + 1) (gm_nK K n 3 e.toNat) (gm_nR R n) (gm_nM M n) else False
  | .aastore => match st with
    | .inr (.inr (.inl r)) :: .inl e :: .inr (.inr (.inl k0)) :: st => gm_isK O n K k0 3 (gm_isK O n K r 5 ((O.2.1 k0 e = none ∧ 0 ≤ e ∧ e < gm_len_ O K k0 ∧ gm_ir e) ∧ k bc bs (pc + 1) L st n K (gm_uR R k0 e r) M))
    | _ => False
  | .ldc ix => match gm_ild (gm_ow mi) ix with
    | some q => if q.2 = 0 then k bc bs (pc + 2) L (gm_vi q.1 :: st) n K R M else False
    | none => match gm_sld (gm_ow mi) ix with
      | some id => k bc bs (pc + 2) L (gm_vo id :: st) n K R M
      | none => False
  | .ldc_w ix => match gm_ild (gm_ow mi) ix with
    | some q => if q.2 = 0 then k bc bs (pc + 3) L (gm_vi q.1 :: st) n K R M else False
    | none => match gm_sld (gm_ow mi) ix with
      | some id => k bc bs (pc + 3) L (gm_vo id :: st) n K R M
      | none => False
  | .ldc2_w ix => match gm_ild (gm_ow mi) ix with
    | some q => if q.2 = 1 then k bc bs (pc + 3) L (gm_vl q.1 :: st) n K R M else False
    | none => False
  | .invokestatic ix => match gm_cal (gm_ow mi) ix with
    | some q => if q.1 = 2 ∧ 1 ≤ d then
        (if q.2 = gm_jmax then gm_two2 st fun x y st => if (st.map gm_cat).sum ≤ 8 then (gm_ir x ∧ gm_ir y) ∧ k bc bs (pc + 3) L (gm_vi (max x y) :: st) n K R M else False
         else if q.2 = gm_jmin then gm_two2 st fun x y st => if (st.map gm_cat).sum ≤ 8 then (gm_ir x ∧ gm_ir y) ∧ k bc bs (pc + 3) L (gm_vi (min x y) :: st) n K R M else False
         else if gm_ow q.2 ≠ gm_mxi ∧ (st.take (gm_na q.2)).length = gm_na q.2 ∧ gm_alls (st.take (gm_na q.2)) = true ∧ gm_na q.2 ≤ gm_ml q.2 ∧ ((st.drop (gm_na q.2)).map gm_cat).sum ≤ 8 then gm_wc P E Q d bc bs q.2 (st.take (gm_na q.2)).reverse (st.drop (gm_na q.2)) n K R M (fun bc bs st n K R M => k bc bs (pc + 3) L st n K R M) else False)
      else False
    | none => False
  | .invokevirtual ix => match gm_cal (gm_ow mi) ix with
    | some q => if q.1 = 0 ∧ gm_ow q.2 ≠ gm_mxi ∧ gm_cio q.2 < 12 ∧ (st.take (gm_na q.2)).length = gm_na q.2 ∧ gm_alls (st.take (gm_na q.2)) = true ∧ gm_na q.2 + 1 ≤ gm_ml q.2 then (match st.drop (gm_na q.2) with
        | .inr (.inr (.inl k0)) :: st' => if (st'.map gm_cat).sum ≤ 8 then gm_isK O n K k0 (gm_cio q.2 + 4) (gm_wc P E Q d bc bs q.2 (gm_vr k0 :: (st.take (gm_na q.2)).reverse) st' n K R M (fun bc bs st n K R M => k bc bs (pc + 3) L st n K R M)) else False
        | _ => False) else False
    | none => False
  | .invokespecial ix => if gm_oi (gm_ow mi) ix = true then (match st with
      | .inr (.inr (.inl k0)) :: st' => if (st'.map gm_cat).sum ≤ 8 ∧ 1 ≤ d then 1 ≤ k0 ∧ k bc bs (pc + 3) L st' n K R M else False
      | _ => False) else match gm_cal (gm_ow mi) ix with
    | some q => if (q.1 = 1 ∨ q.1 = 3) ∧ gm_ow q.2 ≠ gm_mxi ∧ (st.take (gm_na q.2)).length = gm_na q.2 ∧ gm_alls (st.take (gm_na q.2)) = true ∧ gm_na q.2 + 1 ≤ gm_ml q.2 then (match st.drop (gm_na q.2) with
        | .inr (.inr (.inl k0)) :: st' => if (st'.map gm_cat).sum ≤ 8 then (1 ≤ k0 ∧ k0 ≤ n) ∧ gm_wc P E Q d bc bs q.2 (gm_vr k0 :: (st.take (gm_na q.2)).reverse) st' n K R M (fun bc bs st n K R M => k bc bs (pc + 3) L st n K R M) else False
        | _ => False) else False
    | none => False
  | .ireturn => match st with
    | .inl x :: [] => match gm_rt mi with
      | some .int => Q (.inl (some (gm_vi x))) n K R M
      | some .boolean => (x = 0 ∨ x = 1) ∧ Q (.inl (some (gm_vi x))) n K R M
      | _ => False
    | _ => False
  | .return_ => match st, gm_rt mi with
    | [], none => Q (.inl none) n K R M
    | _, _ => False
  | .areturn => match st, gm_rt mi with
    | .inr (.inr (.inl k0)) :: [], some (.object _) => Q (.inl (some (gm_vr k0))) n K R M
    | .inr (.inr (.inl k0)) :: [], some (.array _) => Q (.inl (some (gm_vr k0))) n K R M
    | _, _ => False
  | _ => False
/-- a stretch of code, from pc on -/
def gm_wx (O : gm_Or) (X : Int → Int) (LX : Nat) (P : List (Nat × gm_Pu)) (E : List (Nat × gm_Sc)) (mi : Nat) (cuts : List (Nat × List Bool)) (Q : gm_Q) (d : Nat) : Nat → Bool → Nat → Nat → Nat → gm_L → List gm_V → Nat → gm_K → gm_R → gm_M → Prop
  | 0, _, _, _, _, _, _, _, _, _, _ => False
  | f + 1, fst, bc, bs, pc, L, st, n, K, R, M => match (if fst = true then none else cuts.lookup pc) with
    | some mask => match st with
      | [] => gm_Wo O X LX d bc bs mi pc (gm_mask mask L) [] n K R M Q
      | _ => False
    | none => match gm_at mi pc with
      | some i => gm_wi O X LX P E mi Q d bc bs pc L st n K R M (fun bc bs pc L st n K R M => gm_wx O X LX P E mi cuts Q d f false bc bs pc L st n K R M) i
      | none => False
