/-! STEPS of arithmetic, the stack, branches. -/
theorem gm_i2l (x : Int) : (Int32.ofInt x).toInt64 = Int64.ofInt (gm_w x) := by
  apply Int64.toInt_inj.mp
  rw [Int32.toInt_toInt64, gm_w_toInt, gm_w6_toInt]
  unfold gm_w6 gm_w
  omega
theorem gm_l2i (x : Int) : (Int64.ofInt x).toInt32 = Int32.ofInt x := Int64.toInt32_ofInt
theorem gm_lgc (x y : Int) : lg_cmp (Int64.ofInt x) (Int64.ofInt y) = Int32.ofInt (gm_lcm x y) := by
  have e1 : Int64.ofInt x > Int64.ofInt y ↔ gm_w6 y < gm_w6 x := by
    show Int64.ofInt y < Int64.ofInt x ↔ _
    rw [Int64.lt_iff_toInt_lt, gm_w6_toInt, gm_w6_toInt]
  have e2 : Int64.ofInt x = Int64.ofInt y ↔ gm_w6 x = gm_w6 y := by rw [← Int64.toInt_inj, gm_w6_toInt, gm_w6_toInt]
  unfold lg_cmp gm_lcm
  simp only [e1, e2]
  split
  · rfl
  · split <;> rfl
section GS
variable {X : Int → Int} {LX d bc bs mi pc : Nat} {L : gm_L} {st : List gm_V} {n : Nat} {K : gm_K} {R : gm_R} {M : gm_M} {Q : gm_Q}
theorem gm_p_bin {i : Instr} {f : Int → Int → Int} {x y : Int} (h : gm_at mi pc = some i) (hc : gm_bin i = some f) : gm_Sp X LX d mi pc L (gm_vi y :: gm_vi x :: st) n K R M (pc + gm_len i) L (gm_vi (f x y) :: st) n K R M 0 0 := by
  refine gm_stk fun p l e Rm s m args below meth c hcx α adK H locs cells slots ls sv Q' hL hS k => ?_
  obtain ⟨w1, sv, rfl, h1, hS⟩ := hS
  obtain ⟨w2, sv, rfl, h2, hS⟩ := hS
  cases h1; cases h2
  have k2 := fun w (hw : w = Value.int (Int32.ofInt (f x y))) => k (w :: sv) ⟨w, sv, rfl, hw, hS⟩
  have hdg := gm_dec hcx h (by cases i <;> first | rfl | simp [gm_bin] at hc)
  obtain ⟨hx, hb, -⟩ := hcx
  cases i <;> simp only [gm_bin, Option.some.injEq, reduceCtorEq] at hc
  all_goals (subst hc)
  case iadd => exact lv_iadd hx hb hdg (k2 _ (by rw [gm_add]))
  case isub => exact lv_isub hx hb hdg (k2 _ (by rw [gm_sub]))
  case imul => exact lv_imul hx hb hdg (k2 _ (by rw [gm_mul]))
  case iand => exact lv_iand hx hb hdg (k2 _ (by rw [← gm_ti]))
  case ior => exact lv_ior hx hb hdg (k2 _ (by rw [← gm_ti]))
  case ixor => exact lv_ixor hx hb hdg (k2 _ (by rw [← gm_ti]))
  case ishl => exact lv_ishl hx hb hdg (k2 _ (by rw [← gm_ti]))
  case ishr => exact lv_ishr hx hb hdg (k2 _ (by rw [← gm_ti]))
  case iushr => exact lv_iushr hx hb hdg rfl (k2 _ (by rw [← gm_ti]))
theorem gm_p_div {x y : Int} (h : gm_at mi pc = some .idiv) (hne : ¬ gm_w y = 0) : gm_Sp X LX d mi pc L (gm_vi y :: gm_vi x :: st) n K R M (pc + 1) L (gm_vi (gm_div x y) :: st) n K R M 0 0 := by
  refine gm_stk fun p l e Rm s m args below meth c hcx α adK H locs cells slots ls sv Q' hL hS k => ?_
  obtain ⟨w1, sv, rfl, h1, hS⟩ := hS
  obtain ⟨w2, sv, rfl, h2, hS⟩ := hS
  cases h1; cases h2
  have hdg := gm_dec hcx h rfl
  obtain ⟨hx, hb, -⟩ := hcx
  exact lv_idiv hx hb hdg (fun q => hne ((gm_eq y 0).mp q)) (by rw [gm_dv]; exact k _ ⟨_, _, rfl, rfl, hS⟩)
theorem gm_p_rem {x y : Int} (h : gm_at mi pc = some .irem) (hne : ¬ gm_w y = 0) : gm_Sp X LX d mi pc L (gm_vi y :: gm_vi x :: st) n K R M (pc + 1) L (gm_vi (gm_rem x y) :: st) n K R M 0 0 := by
  refine gm_stk fun p l e Rm s m args below meth c hcx α adK H locs cells slots ls sv Q' hL hS k => ?_
  obtain ⟨w1, sv, rfl, h1, hS⟩ := hS
  obtain ⟨w2, sv, rfl, h2, hS⟩ := hS
  cases h1; cases h2
  have hdg := gm_dec hcx h rfl
  obtain ⟨hx, hb, -⟩ := hcx
  exact lv_irem hx hb hdg (fun q => hne ((gm_eq y 0).mp q)) (by rw [gm_rm]; exact k _ ⟨_, _, rfl, rfl, hS⟩)
theorem gm_p_un {i : Instr} {f : Int → Int} {x : Int} (h : gm_at mi pc = some i) (hc : gm_un i = some f) : gm_Sp X LX d mi pc L (gm_vi x :: st) n K R M (pc + gm_len i) L (gm_vi (f x) :: st) n K R M 0 0 := by
  refine gm_stk fun p l e Rm s m args below meth c hcx α adK H locs cells slots ls sv Q' hL hS k => ?_
  obtain ⟨w1, sv, rfl, h1, hS⟩ := hS
  cases h1
  have hdg := gm_dec hcx h (by cases i <;> first | rfl | simp [gm_un] at hc)
  obtain ⟨hx, hb, -⟩ := hcx
  cases i <;> simp only [gm_un, Option.some.injEq, reduceCtorEq] at hc
  all_goals (subst hc)
  case ineg => exact lv_ineg hx hb hdg (by rw [gm_neg]; exact k _ ⟨_, _, rfl, rfl, hS⟩)
  case i2b => exact lv_i2b hx hb hdg (gm_i2b x) (k _ ⟨_, _, rfl, rfl, hS⟩)
theorem gm_p_i2l {x : Int} (h : gm_at mi pc = some .i2l) : gm_Sp X LX d mi pc L (gm_vi x :: st) n K R M (pc + 1) L (gm_vl (gm_w x) :: st) n K R M 0 0 := by
  refine gm_stk fun p l e Rm s m args below meth c hcx α adK H locs cells slots ls sv Q' hL hS k => ?_
  obtain ⟨w1, sv, rfl, h1, hS⟩ := hS
  cases h1
  have hdg := gm_dec hcx h rfl
  obtain ⟨hx, hb, -⟩ := hcx
  exact lv_i2l hx hb hdg (gm_i2l x) (k _ ⟨_, _, rfl, rfl, hS⟩)
theorem gm_p_l2i {x : Int} (h : gm_at mi pc = some .l2i) : gm_Sp X LX d mi pc L (gm_vl x :: st) n K R M (pc + 1) L (gm_vi x :: st) n K R M 0 0 := by
  refine gm_stk fun p l e Rm s m args below meth c hcx α adK H locs cells slots ls sv Q' hL hS k => ?_
  obtain ⟨w1, sv, rfl, h1, hS⟩ := hS
  cases h1
  have hdg := gm_dec hcx h rfl
  obtain ⟨hx, hb, -⟩ := hcx
  exact lv_l2i hx hb hdg (gm_l2i x) (k _ ⟨_, _, rfl, rfl, hS⟩)
theorem gm_p_lbin {i : Instr} {f : Int → Int → Int} {x y : Int} (h : gm_at mi pc = some i) (hc : gm_lbin i = some f) : gm_Sp X LX d mi pc L (gm_vl y :: gm_vl x :: st) n K R M (pc + gm_len i) L (gm_vl (f x y) :: st) n K R M 0 0 := by
  refine gm_stk fun p l e Rm s m args below meth c hcx α adK H locs cells slots ls sv Q' hL hS k => ?_
  obtain ⟨w1, sv, rfl, h1, hS⟩ := hS
  obtain ⟨w2, sv, rfl, h2, hS⟩ := hS
  cases h1; cases h2
  have k2 := fun w (hw : w = Value.long (Int64.ofInt (f x y))) => k (w :: sv) ⟨w, sv, rfl, hw, hS⟩
  have hdg := gm_dec hcx h (by cases i <;> first | rfl | simp [gm_lbin] at hc)
  obtain ⟨hx, hb, -⟩ := hcx
  cases i <;> simp only [gm_lbin, Option.some.injEq, reduceCtorEq] at hc
  all_goals (subst hc)
  case land => exact lv_land hx hb hdg (k2 _ (by rw [← gm_ti6]))
  case lor => exact lv_lor hx hb hdg (k2 _ (by rw [← gm_ti6]))
  case lxor => exact lv_lxor hx hb hdg (k2 _ (by rw [← gm_ti6]))
theorem gm_p_lsh {i : Instr} {f : Int → Int → Int} {x y : Int} (h : gm_at mi pc = some i) (hc : gm_lsh i = some f) : gm_Sp X LX d mi pc L (gm_vi y :: gm_vl x :: st) n K R M (pc + gm_len i) L (gm_vl (f x y) :: st) n K R M 0 0 := by
  refine gm_stk fun p l e Rm s m args below meth c hcx α adK H locs cells slots ls sv Q' hL hS k => ?_
  obtain ⟨w1, sv, rfl, h1, hS⟩ := hS
  obtain ⟨w2, sv, rfl, h2, hS⟩ := hS
  cases h1; cases h2
  have k2 := fun w (hw : w = Value.long (Int64.ofInt (f x y))) => k (w :: sv) ⟨w, sv, rfl, hw, hS⟩
  have hdg := gm_dec hcx h (by cases i <;> first | rfl | simp [gm_lsh] at hc)
  obtain ⟨hx, hb, -⟩ := hcx
  cases i <;> simp only [gm_lsh, Option.some.injEq, reduceCtorEq] at hc
  all_goals (subst hc)
  case lshl => exact lv_lshl hx hb hdg rfl (k2 _ (by rw [← gm_ti6]))
  case lushr => exact lv_lushr hx hb hdg rfl (k2 _ (by rw [← gm_ti6]))
theorem gm_p_lcmp {x y : Int} (h : gm_at mi pc = some .lcmp) : gm_Sp X LX d mi pc L (gm_vl y :: gm_vl x :: st) n K R M (pc + 1) L (gm_vi (gm_lcm x y) :: st) n K R M 0 0 := by
  refine gm_stk fun p l e Rm s m args below meth c hcx α adK H locs cells slots ls sv Q' hL hS k => ?_
  obtain ⟨w1, sv, rfl, h1, hS⟩ := hS
  obtain ⟨w2, sv, rfl, h2, hS⟩ := hS
  cases h1; cases h2
  have hdg := gm_dec hcx h rfl
  obtain ⟨hx, hb, -⟩ := hcx
  exact W.lcmp hx hb hdg (by rw [gm_lgc]; exact k _ ⟨_, _, rfl, rfl, hS⟩)
theorem gm_p_dup {v : gm_V} (h : gm_at mi pc = some .dup) (hs : ¬ gm_sort v = 1) : gm_Sp X LX d mi pc L (v :: st) n K R M (pc + 1) L (v :: v :: st) n K R M 0 0 := by
  refine gm_stk fun p l e Rm s m args below meth c hcx α adK H locs cells slots ls sv Q' hL hS k => ?_
  obtain ⟨w1, sv, rfl, h1, hS⟩ := hS
  have hdg := gm_dec hcx h rfl
  obtain ⟨hx, hb, -⟩ := hcx
  exact lv_dup hx hb hdg (gm_cat1 h1 hs) (k _ ⟨_, _, rfl, h1, _, _, rfl, h1, hS⟩)
theorem gm_p_pop {v : gm_V} (h : gm_at mi pc = some .pop) (hs : ¬ gm_sort v = 1) : gm_Sp X LX d mi pc L (v :: st) n K R M (pc + 1) L st n K R M 0 0 := by
  refine gm_stk fun p l e Rm s m args below meth c hcx α adK H locs cells slots ls sv Q' hL hS k => ?_
  obtain ⟨w1, sv, rfl, h1, hS⟩ := hS
  have hdg := gm_dec hcx h rfl
  obtain ⟨hx, hb, -⟩ := hcx
  exact lv_pop hx hb hdg (gm_cat1 h1 hs) (k _ hS)
theorem gm_p_dup2 {v u : gm_V} (h : gm_at mi pc = some .dup2) (hs : ¬ gm_sort v = 1) (hs2 : ¬ gm_sort u = 1) : gm_Sp X LX d mi pc L (v :: u :: st) n K R M (pc + 1) L (v :: u :: v :: u :: st) n K R M 0 0 := by
  refine gm_stk fun p l e Rm s m args below meth c hcx α adK H locs cells slots ls sv Q' hL hS k => ?_
  obtain ⟨w1, sv, rfl, h1, hS⟩ := hS
  obtain ⟨w2, sv, rfl, h2, hS⟩ := hS
  have hdg := gm_dec hcx h rfl
  obtain ⟨hx, hb, -⟩ := hcx
  exact lv_dup2_11 hx hb hdg (gm_cat1 h1 hs) (gm_cat1 h2 hs2) (k _ ⟨_, _, rfl, h1, _, _, rfl, h2, _, _, rfl, h1, _, _, rfl, h2, hS⟩)
theorem gm_p_iinc {j : Nat} {z x : Int} (h : gm_at mi pc = some (.iinc j z)) (hj : L[j]? = some (some (gm_vi x))) : gm_Sp X LX d mi pc L st n K R M (pc + 3) (gm_lst L j (gm_vi (x + z))) st n K R M 0 0 := by
  refine gm_slo fun p l e Rm s m args below meth c hcx α adK H locs cells slots ls sv Q' hL hS k => ?_
  have hdg := gm_dec hcx h rfl
  obtain ⟨hx, hb, -⟩ := hcx
  obtain ⟨hlen, l0, hl, hmem⟩ := hL
  have hlt : j < gm_ml mi := by rw [← hlen]; exact (List.getElem?_eq_some_iff.mp hj).1
  obtain ⟨w, hw, hm⟩ := hmem j _ hj
  cases hw
  obtain ⟨q, hq⟩ := List.getElem?_of_mem hm
  exact lv_iinc hx hb hdg hl hq (gm_add x z) hlt rfl fun ls' h' => k ls' sv (gm_lr_set1 hlen hmem (by simp [gm_sort]) rfl h') hS
theorem gm_p_goto {off : Int} (h : gm_at mi pc = some (.goto off)) (ht : 0 ≤ (pc : Int) + off) : gm_Sp X LX d mi pc L st n K R M (gm_tgt pc off) L st n K R M 0 0 := by
  refine gm_stk fun p l e Rm s m args below meth c hcx α adK H locs cells slots ls sv Q' hL hS k => ?_
  have hdg := gm_dec hcx h rfl
  obtain ⟨hx, hb, -⟩ := hcx
  exact lv_goto hx hb hdg (by unfold gm_tgt; omega) (k _ hS)
/-- a branch: two places behind it, heap and locals as they were -/
theorem gm_two {pt pf : Nat} {st' : List gm_V} {cd : Prop} (h : ∀ (p : Program) (l : Launch) (e : Env) (Rm : Room) (s : State) (m : MethodId) (args : Array Value) (below : List Frame) (meth : Method) (c : Code), gm_Cx mi p l s m args meth c → ∀ (α adK : Nat → Nat) (H : Heap) (locs : List Loc) (cells slots : Nat) (ls : Array Slot) (sv : List Value) (Q' : State → Prop), gm_sr α adK n st sv → (∀ sv', gm_sr α adK n st' sv' → cd → W p l e Rm s m args below meth c H locs cells slots Q' (F0 m pt ls sv')) → (∀ sv', gm_sr α adK n st' sv' → ¬ cd → W p l e Rm s m args below meth c H locs cells slots Q' (F0 m pf ls sv')) → W p l e Rm s m args below meth c H locs cells slots Q' (F0 m pc ls sv))
    (kt : cd → gm_Wp X LX d bc bs mi pt L st' n K R M Q) (kf : ¬ cd → gm_Wp X LX d bc bs mi pf L st' n K R M Q) : gm_Wp X LX d bc bs mi pc L st n K R M Q := by
  intro p l e Rm s m args below meth c D ti adK adV A α0 n0 mc ms hcx hev hd hd2 hmc hms hA α H locs cells slots ls sv hxt hc1 hc2 hR hL hS
  exact h p l e Rm s m args below meth c hcx α adK H locs cells slots ls sv _ hS (fun sv' hS' hc => kt hc p l e Rm s m args below meth c D ti adK adV A α0 n0 mc ms hcx hev hd hd2 hmc hms hA α H locs cells slots ls sv' hxt hc1 hc2 hR hL hS') (fun sv' hS' hc => kf hc p l e Rm s m args below meth c D ti adK adV A α0 n0 mc ms hcx hev hd hd2 hmc hms hA α H locs cells slots ls sv' hxt hc1 hc2 hR hL hS')
theorem gm_b_if {cc : ClassFile.Cond} {off x : Int} (h : gm_at mi pc = some (.ifCond cc off)) (ht : 0 ≤ (pc : Int) + off) (kt : gm_cmp cc x 0 → gm_Wp X LX d bc bs mi (gm_tgt pc off) L st n K R M Q) (kf : ¬ gm_cmp cc x 0 → gm_Wp X LX d bc bs mi (pc + 3) L st n K R M Q) : gm_Wp X LX d bc bs mi pc L (gm_vi x :: st) n K R M Q := by
  refine gm_two (fun p l e Rm s m args below meth c hcx α adK H locs cells slots ls sv Q' hS k1 k2 => ?_) kt kf
  obtain ⟨w1, sv, rfl, h1, hS⟩ := hS
  cases h1
  have hdg := gm_dec hcx h rfl
  obtain ⟨hx, hb, -⟩ := hcx
  have htg : (pc : Int) + off = (gm_tgt pc off : Int) := by unfold gm_tgt; omega
  cases cc
  case eq => exact lv_if_eq hx hb hdg htg (fun q => k1 _ hS ((gm_eq x 0).mp q)) (fun q => k2 _ hS (fun z => q ((gm_eq x 0).mpr z)))
  case ne => exact lv_if_ne hx hb hdg htg (fun q => k1 _ hS (fun z => q ((gm_eq x 0).mpr z))) (fun q => k2 _ hS (fun z => z ((gm_eq x 0).mp q)))
  case lt => exact lv_if_lt hx hb hdg htg (fun q => k1 _ hS ((gm_lt x 0).mp q)) (fun q => k2 _ hS (fun z => q ((gm_lt x 0).mpr z)))
  case ge => exact lv_if_ge hx hb hdg htg (fun q => k1 _ hS ((gm_le 0 x).mp q)) (fun q => k2 _ hS (fun z => q ((gm_le 0 x).mpr z)))
  case gt => exact lv_if_gt hx hb hdg htg (fun q => k1 _ hS ((gm_lt 0 x).mp q)) (fun q => k2 _ hS (fun z => q ((gm_lt 0 x).mpr z)))
  case le => exact lv_if_le hx hb hdg htg (fun q => k1 _ hS ((gm_le x 0).mp q)) (fun q => k2 _ hS (fun z => q ((gm_le x 0).mpr z)))
theorem gm_b_ic {cc : ClassFile.Cond} {off x y : Int} (h : gm_at mi pc = some (.if_icmp cc off)) (ht : 0 ≤ (pc : Int) + off) (kt : gm_cmp cc x y → gm_Wp X LX d bc bs mi (gm_tgt pc off) L st n K R M Q) (kf : ¬ gm_cmp cc x y → gm_Wp X LX d bc bs mi (pc + 3) L st n K R M Q) : gm_Wp X LX d bc bs mi pc L (gm_vi y :: gm_vi x :: st) n K R M Q := by
  refine gm_two (fun p l e Rm s m args below meth c hcx α adK H locs cells slots ls sv Q' hS k1 k2 => ?_) kt kf
  obtain ⟨w1, sv, rfl, h1, hS⟩ := hS
  obtain ⟨w2, sv, rfl, h2, hS⟩ := hS
  cases h1; cases h2
  have hdg := gm_dec hcx h rfl
  obtain ⟨hx, hb, -⟩ := hcx
  have htg : (pc : Int) + off = (gm_tgt pc off : Int) := by unfold gm_tgt; omega
  cases cc
  case eq => exact lv_icmp_eq hx hb hdg htg (fun q => k1 _ hS ((gm_eq x y).mp q)) (fun q => k2 _ hS (fun z => q ((gm_eq x y).mpr z)))
  case ne => exact lv_icmp_ne hx hb hdg htg (fun q => k1 _ hS (fun z => q ((gm_eq x y).mpr z))) (fun q => k2 _ hS (fun z => z ((gm_eq x y).mp q)))
  case lt => exact lv_icmp_lt hx hb hdg htg (fun q => k1 _ hS ((gm_lt x y).mp q)) (fun q => k2 _ hS (fun z => q ((gm_lt x y).mpr z)))
  case ge => exact lv_icmp_ge hx hb hdg htg (fun q => k1 _ hS ((gm_le y x).mp q)) (fun q => k2 _ hS (fun z => q ((gm_le y x).mpr z)))
  case gt => exact lv_icmp_gt hx hb hdg htg (fun q => k1 _ hS ((gm_lt y x).mp q)) (fun q => k2 _ hS (fun z => q ((gm_lt y x).mpr z)))
  case le => exact lv_icmp_le hx hb hdg htg (fun q => k1 _ hS ((gm_le x y).mp q)) (fun q => k2 _ hS (fun z => q ((gm_le x y).mpr z)))
theorem gm_b_nul {off : Int} {k0 : Nat} (hk0 : k0 < 100000) (h : gm_at mi pc = some (.ifnull off)) (ht : 0 ≤ (pc : Int) + off) (kt : k0 = 0 → gm_Wp X LX d bc bs mi (gm_tgt pc off) L st n K R M Q) (kf : ¬ k0 = 0 → gm_Wp X LX d bc bs mi (pc + 3) L st n K R M Q) : gm_Wp X LX d bc bs mi pc L (gm_vr k0 :: st) n K R M Q := by
  refine gm_two (fun p l e Rm s m args below meth c hcx α adK H locs cells slots ls sv Q' hS k1 k2 => ?_) kt kf
  obtain ⟨w1, sv, rfl, h1, hS⟩ := hS
  have hdg := gm_dec hcx h rfl
  obtain ⟨hx, hb, -⟩ := hcx
  have htg : (pc : Int) + off = (gm_tgt pc off : Int) := by unfold gm_tgt; omega
  obtain ⟨rfl, -⟩ := h1
  cases k0 with
  | zero => exact lv_ifnullN hx hb hdg htg (k1 _ hS rfl)
  | succ k0 => rw [gm_rf_pos (by omega) hk0]; exact lv_ifnull hx hb hdg (k2 _ hS (by omega))
theorem gm_b_nnul {off : Int} {k0 : Nat} (hk0 : k0 < 100000) (h : gm_at mi pc = some (.ifnonnull off)) (ht : 0 ≤ (pc : Int) + off) (kt : ¬ k0 = 0 → gm_Wp X LX d bc bs mi (gm_tgt pc off) L st n K R M Q) (kf : k0 = 0 → gm_Wp X LX d bc bs mi (pc + 3) L st n K R M Q) : gm_Wp X LX d bc bs mi pc L (gm_vr k0 :: st) n K R M Q := by
  refine gm_two (cd := ¬ k0 = 0) (fun p l e Rm s m args below meth c hcx α adK H locs cells slots ls sv Q' hS k1 k2 => ?_) kt (fun q => kf (Classical.not_not.mp q))
  obtain ⟨w1, sv, rfl, h1, hS⟩ := hS
  have hdg := gm_dec hcx h rfl
  obtain ⟨hx, hb, -⟩ := hcx
  have htg : (pc : Int) + off = (gm_tgt pc off : Int) := by unfold gm_tgt; omega
  obtain ⟨rfl, -⟩ := h1
  cases k0 with
  | zero => exact lv_ifnonnullN hx hb hdg (k2 _ hS (fun q => q rfl))
  | succ k0 => rw [gm_rf_pos (by omega) hk0]; exact lv_ifnonnull hx hb hdg htg (k1 _ hS (by omega))
/-- a switch: a goal for each of its places -/
noncomputable def gm_swt (x : Int) (f : Nat → Prop) (pc : Nat) : List Int → Int → Prop
  | [], _ => True
  | o :: os, v => (gm_w x = v → f (gm_tgt pc o)) ∧ gm_swt x f pc os (v + 1)
theorem gm_swt_at {x : Int} {f : Nat → Prop} {pc : Nat} : ∀ (os : List Int) (v : Int), gm_swt x f pc os v → ∀ (i : Nat) (o : Int), os[i]? = some o → gm_w x = v + i → f (gm_tgt pc o) := by
  intro os
  induction os with
  | nil => intro v _ i o ho; simp at ho
  | cons a os ih =>
    intro v h i o ho hv
    cases i with
    | zero => simp at ho; subst ho; exact h.1 (by simpa using hv)
    | succ i => exact ih (v + 1) h.2 i o (by simpa using ho) (by rw [hv]; push_cast; omega)
theorem gm_b_sw {df lo hi x : Int} {offs : Array Int} (h : gm_at mi pc = some (.tableswitch df lo hi offs)) (hn : ((offs.size : Nat) : Int) = hi - lo + 1) (ht : 0 ≤ (pc : Int) + df ∧ ∀ o ∈ offs.toList, 0 ≤ (pc : Int) + o) (kd : gm_w x < lo ∨ hi < gm_w x → gm_Wp X LX d bc bs mi (gm_tgt pc df) L st n K R M Q) (ks : gm_swt x (fun q => gm_Wp X LX d bc bs mi q L st n K R M Q) pc offs.toList lo) : gm_Wp X LX d bc bs mi pc L (gm_vi x :: st) n K R M Q := by
  intro p l e Rm s m args below meth c D ti adK adV A α0 n0 mc ms hcx hev hd hd2 hmc hms hA α H locs cells slots ls sv hxt hc1 hc2 hR hL hS
  obtain ⟨w1, sv, rfl, h1, hS⟩ := hS
  cases h1
  obtain ⟨len, hdg, -⟩ := gm_at_ok hcx.2.2.2.2.2.2.2.2.2.1 h
  obtain ⟨hx, hb, -⟩ := id hcx
  by_cases ho : gm_w x < lo ∨ hi < gm_w x
  · refine lv_tableOut hx hb hdg (by rw [gm_w_toInt]; exact ho) (tgt := gm_tgt pc df) (by unfold gm_tgt; omega) ?_
    exact kd ho p l e Rm s m args below meth c D ti adK adV A α0 n0 mc ms hcx hev hd hd2 hmc hms hA α H locs cells slots ls sv hxt hc1 hc2 hR hL hS
  · have hi' : (gm_w x - lo).toNat < offs.size := by omega
    have ho2 : offs[(gm_w x - lo).toNat]? = some (offs[(gm_w x - lo).toNat]) := Array.getElem?_eq_getElem hi'
    generalize offs[(gm_w x - lo).toNat] = o at ho2
    have hmem : o ∈ offs.toList := Array.mem_toList_iff.mpr (Array.mem_of_getElem? ho2)
    have h0 := ht.2 o hmem
    refine lv_tableIn hx hb hdg (by rw [gm_w_toInt]; omega) (by rw [gm_w_toInt]; omega) (by rw [gm_w_toInt]; exact ho2) (tgt := gm_tgt pc o) (by unfold gm_tgt; omega) ?_
    have k := gm_swt_at offs.toList lo ks (gm_w x - lo).toNat o (by rw [Array.getElem?_toList]; exact ho2) (by omega)
    exact k p l e Rm s m args below meth c D ti adK adV A α0 n0 mc ms hcx hev hd hd2 hmc hms hA α H locs cells slots ls sv hxt hc1 hc2 hR hL hS
end GS
