/-! THE CHECKER is right. -/
section CG
variable {O : gm_Or} {X : Int → Int} {LX : Nat} {lx : Option Nat} {XF : List (Int × Int × ck_I)} {E : List (Nat × List ck_Sum)} {mi d n0 : Nat} {W : List (Nat × Int × Int) × List (Nat × Int)} {outs : List ck_Oc} {bc bs pc : Nat} {L : gm_L} {st : List gm_V} {n : Nat} {K : gm_K} {R : gm_R} {M : gm_M} {AL : ck_AL} {AS : ck_AS} {F : ck_F} {σ σ0 : Nat → Int} {K0 : gm_K} {R0 : gm_R} {M0 : gm_M} {k : Nat → Nat → Nat → ck_AL → ck_AS → Nat → ck_F → Bool}
theorem ck_j_s {i : Instr} (hE : ck_nmu O ∧ ck_OkE O X LX E) (hX : ck_OkX σ X XF) (hlx : ∀ l, lx = some l → l = LX) (hs : ∀ s, s < 100 → σ s = σ0 s) (hat : gm_at mi pc = some i) (hS : ck_St O σ W n0 K0 R0 M0 AL AS F L st n K R M) (hk : ck_On O X LX σ mi d W n0 K0 R0 M0 (ck_Q O σ0 W n0 K0 R0 M0 outs) k) (h : ck_j O lx XF E mi d n0 W outs bc bs pc AL AS n F k i = true) : gm_Wp X LX d bc bs mi pc L st n K R M (ck_Q O σ0 W n0 K0 R0 M0 outs) := by
  cases i
  case ineg => exact ck_j_ineg hat hS hk h
  case i2b => exact ck_j_i2b hat hS hk h
  case i2l => exact ck_j_i2l hat hS hk h
  case l2i => exact ck_j_l2i hat hS hk h
  case lcmp => exact ck_j_lcmp hat hS hk h
  case idiv => exact ck_j_idiv hat hS hk h
  case irem => exact ck_j_irem hat hS hk h
  case dup => exact ck_j_dup hat hS hk h
  case pop => exact ck_j_pop hat hS hk h
  case dup2 => exact ck_j_dup2 hat hS hk h
  case iinc => exact ck_j_iinc hat hS hk h
  case goto => exact ck_j_goto hat hS hk h
  case ifCond => exact ck_j_if hat hS hk h
  case if_icmp => exact ck_j_ic hat hS hk h
  case ifnull => exact ck_j_ifnull hat hS hk h
  case ifnonnull => exact ck_j_ifnonnull hat hS hk h
  case tableswitch => exact ck_j_sw hat hS hk h
  case getfield => exact ck_j_get hat hS hk h
  case putfield => exact ck_j_put hat hS hk h
  case iaload => exact ck_j_iald hX hlx hat hS hk h
  case baload => exact ck_j_bald hat hS hk h
  case laload => exact ck_j_lald hat hS hk h
  case aaload => exact ck_j_aald hat hS hk h
  case iastore => exact ck_j_iast hat hS hk h
  case bastore => exact ck_j_bast hat hS hk h
  case lastore => exact ck_j_last hat hS hk h
  case aastore => exact ck_j_aast hat hS hk h
  case arraylength => exact ck_j_alen hlx hat hS hk h
  case new => exact ck_j_new hs hat hS hk h
  case newarray => exact ck_j_newa hat hS hk h
  case anewarray => exact ck_j_anew hat hS hk h
  case ldc => exact ck_j_ldc hat hS hk h
  case ldc_w => exact ck_j_ldc_w hat hS hk h
  case ldc2_w => exact ck_j_ldcl hat hS hk h
  case invokestatic => exact ck_j_stat hE hs hat hS hk h
  case invokevirtual => exact ck_j_virt hE hs hat hS hk h
  case invokespecial => exact ck_j_spec hE hs hat hS hk h
  case ireturn => exact ck_j_iret hs hat hS hk h
  case return_ => exact ck_j_vret hs hat hS hk h
  case areturn => exact ck_j_aret hs hat hS hk h
  all_goals exact absurd (show false = true from h) Bool.false_ne_true
theorem ck_fk_s {i : Instr} {a b : ck_I} (h : ck_fk i a b = true) : ck_sg b = true := by
  unfold ck_fk at h
  split at h
  · rw [Bool.and_eq_true] at h; exact h.1
  · cases h
theorem ck_i_s {i : Instr} (hE : ck_nmu O ∧ ck_OkE O X LX E) (hX : ck_OkX σ X XF) (hlx : ∀ l, lx = some l → l = LX) (hs : ∀ s, s < 100 → σ s = σ0 s) (hat : gm_at mi pc = some i) (hS : ck_St O σ W n0 K0 R0 M0 AL AS F L st n K R M) (hk : ck_On O X LX σ mi d W n0 K0 R0 M0 (ck_Q O σ0 W n0 K0 R0 M0 outs) k) (h : ck_i O lx XF E mi d n0 W outs bc bs pc AL AS n F k i = true) : gm_Wp X LX d bc bs mi pc L st n K R M (ck_Q O σ0 W n0 K0 R0 M0 outs) := by
  unfold ck_i at h
  obtain ⟨f1, f2, f3, f4, f5⟩ := _root_.id hS
  cases hc : gm_const i with
  | some v =>
    rw [hc] at h
    dsimp only at h
    rw [Bool.and_eq_true] at h
    exact gm_sz (gm_p_const hat hc) (hk _ _ _ _ _ _ _ _ _ _ _ _ h.2 ⟨f1, f2, ⟨v, _, rfl, ⟨ck_cv_s h.1, trivial⟩, f3⟩, f4, f5⟩)
  | none =>
  rw [hc] at h
  dsimp only at h
  cases hl : gm_load i with
  | some q =>
    rw [hl] at h
    obtain ⟨sr, j⟩ := q
    dsimp only at h
    split at h
    · rename_i a hj
      rw [Bool.and_eq_true, beq_iff_eq] at h
      obtain ⟨u, hu1, hu2⟩ := f2.2 j a hj
      exact gm_sz (gm_p_load hat hl hu1 (by rw [ck_so_s hu2]; exact h.1)) (hk _ _ _ _ _ _ _ _ _ _ _ _ h.2 ⟨f1, f2, ⟨u, _, rfl, ⟨hu2, u, hu1, Or.inl ⟨rfl, rfl⟩⟩, f3⟩, f4, f5⟩)
    · cases h
  | none =>
  rw [hl] at h
  dsimp only at h
  cases ht : gm_stor i with
  | some q =>
    rw [ht] at h
    obtain ⟨sr, j⟩ := q
    dsimp only at h
    rcases AS with _ | ⟨q, AS⟩
    · cases h
    · obtain ⟨v, st', e0, hso, hv, hst⟩ := ck_q1 f3
      subst e0
      dsimp only at h
      simp only [Bool.and_eq_true, beq_iff_eq, decide_eq_true_eq] at h
      exact gm_sz (gm_p_stor hat ht (by rw [← f2.1]; exact h.1.2) (by rw [hso]; exact h.1.1)) (hk _ _ _ _ _ _ _ _ _ _ _ _ h.2 ⟨f1, ck_lst_s f2 hv.1, ck_sl_s hst, f4, f5⟩)
  | none =>
  rw [ht] at h
  dsimp only at h
  cases hb : gm_bin i with
  | some f =>
    rw [hb] at h
    rcases AS with _ | ⟨⟨b | b | r | c, t⟩, _ | ⟨⟨a | a | r' | c', s⟩, AS⟩⟩ <;> (try cases h)
    obtain ⟨y, st, rfl, hy, hb2, hsy, hst⟩ := ck_qi f3
    obtain ⟨x, st, rfl, hx, ha, hsx, hst⟩ := ck_qi hst
    dsimp only at h
    refine gm_sz (gm_p_bin hat hb) (ck_nv ?_)
    cases hk1 : ck_fk i a b with
    | true =>
      rw [hk1] at h
      have e1 := ck_sg_s hb2 (ck_fk_s hk1)
      have h2 := List.all_eq_true.mp h (x - a.1).toNat (List.mem_range.mpr (by have := ha.1; have := ha.2.1; omega))
      rw [show a.1 + ((x - a.1).toNat : Int) = x by have := ha.1; omega, ← e1] at h2
      exact hk _ _ _ _ _ _ _ _ _ _ _ _ h2 ⟨f1, ck_qL_s ⟨Int.le_refl _, Int.le_refl _⟩ ha f2, ck_pi (ck_w_ir _) (ck_one_s _) (s := none) trivial hst, ck_qF_s ⟨Int.le_refl _, Int.le_refl _⟩ ha f4, f5⟩
    | false =>
      rw [hk1] at h
      cases hk2 : ck_fk i b a with
      | true =>
        rw [hk2] at h
        have e1 := ck_sg_s ha (ck_fk_s hk2)
        have h2 := List.all_eq_true.mp h (y - b.1).toNat (List.mem_range.mpr (by have := hb2.1; have := hb2.2.1; omega))
        rw [show b.1 + ((y - b.1).toNat : Int) = y by have := hb2.1; omega, ← e1] at h2
        exact hk _ _ _ _ _ _ _ _ _ _ _ _ h2 ⟨f1, ck_qL_s ⟨Int.le_refl _, Int.le_refl _⟩ hb2 f2, ck_pi (ck_w_ir _) (ck_one_s _) (s := none) trivial hst, ck_qF_s ⟨Int.le_refl _, Int.le_refl _⟩ hb2 f4, f5⟩
      | false =>
        rw [hk2] at h
        exact hk _ _ _ _ _ _ _ _ _ _ _ _ h ⟨f1, f2, ck_pi (ck_w_ir _) (ck_bo_s hb ha hb2 hx hy) (s := ck_lks O (ck_sb i a s b t)) (ck_lks_s f1 (ck_sb_s hb ha hsx hb2 hsy)) hst, f4, f5⟩
  | none =>
  rw [hb] at h
  dsimp only at h
  cases hlb : gm_lbin i with
  | some f =>
    rw [hlb] at h
    rcases AS with _ | ⟨⟨b | b | r | c, t⟩, _ | ⟨⟨a | a | r' | c', s⟩, AS⟩⟩ <;> (try cases h)
    obtain ⟨y, st, rfl, hy, hb2, hst⟩ := ck_ql f3
    obtain ⟨x, st, rfl, hx, ha, hst⟩ := ck_ql hst
    exact gm_sz (gm_p_lbin hat hlb) (ck_nv6 (hk _ _ _ _ _ _ _ _ _ _ _ _ h ⟨f1, f2, ck_pl (ck_r6_w _) (ck_tp6_s (ck_r6_w _)) hst, f4, f5⟩))
  | none =>
  rw [hlb] at h
  dsimp only at h
  cases hls : gm_lsh i with
  | some f =>
    rw [hls] at h
    rcases AS with _ | ⟨⟨b | b | r | c, t⟩, _ | ⟨⟨a | a | r' | c', s⟩, AS⟩⟩ <;> (try cases h)
    obtain ⟨y, st, rfl, hy, hb2, -, hst⟩ := ck_qi f3
    obtain ⟨x, st, rfl, hx, ha, hst⟩ := ck_ql hst
    exact gm_sz (gm_p_lsh hat hls) (ck_nv6 (hk _ _ _ _ _ _ _ _ _ _ _ _ h ⟨f1, f2, ck_pl (ck_r6_w _) (ck_tp6_s (ck_r6_w _)) hst, f4, f5⟩))
  | none =>
  rw [hls] at h
  dsimp only at h
  exact ck_j_s hE hX hlx hs hat hS hk h
/-! another meaning of one name -/
def ck_us (σ : Nat → Int) (s : Nat) (v : Int) : Nat → Int := fun t => if t = s then v else σ t
theorem ck_nI_s {s : Nat} {v x : Int} {a : ck_I} (h : ck_nI s a = true) : ck_gi (ck_us σ s v) a x ↔ ck_gi σ a x := by
  have key : ck_gt (ck_us σ s v) a.2.2 x ↔ ck_gt σ a.2.2 x := by
    have h0 : ∀ q ∈ a.2.2, (ck_g1 (ck_us σ s v) q x ↔ ck_g1 σ q x) := by
      intro q hq
      have h := List.all_eq_true.mp h q hq
      simp only [Bool.and_eq_true, Bool.not_eq_true', beq_eq_false_iff_ne, ne_eq] at h
      have e : ck_us σ s v q.1 = σ q.1 := by unfold ck_us; rw [if_neg h.1]
      have e2 : 1000000 ≤ q.1 → ck_us σ s v (q.1 - 1000000) = σ (q.1 - 1000000) := by intro h9; unfold ck_us; rw [if_neg (by omega)]
      unfold ck_g1
      rw [e]
      constructor
      · exact fun h2 => ⟨h2.1, fun h9 => by rw [← e2 h9]; exact h2.2 h9⟩
      · exact fun h2 => ⟨h2.1, fun h9 => by rw [e2 h9]; exact h2.2 h9⟩
    exact ⟨fun h1 q hq => (h0 q hq).mp (h1 q hq), fun h1 q hq => (h0 q hq).mpr (h1 q hq)⟩
  unfold ck_gi
  rw [key]
theorem ck_nA_s {s : Nat} {v : Int} {a : ck_A} {u : gm_V} (h : ck_nA s a = true) : ck_ga (ck_us σ s v) a u ↔ ck_ga σ a u := by
  rcases a with a | a | j | j
  · constructor <;> rintro ⟨x, h1, h2, h3⟩ <;> exact ⟨x, h1, h2, by first | exact (ck_nI_s h).mp h3 | exact (ck_nI_s h).mpr h3⟩
  · constructor <;> rintro ⟨x, h1, h2, h3⟩ <;> exact ⟨x, h1, h2, by first | exact (ck_nI_s h).mp h3 | exact (ck_nI_s h).mpr h3⟩
  · exact Iff.rfl
  · exact Iff.rfl
theorem ck_nL_s {s : Nat} {v : Int} (h : ck_nL s AL = true) : ck_gl (ck_us σ s v) AL L ↔ ck_gl σ AL L := by
  have h1 : ∀ (j : Nat) (b : ck_A), AL[j]? = some (some b) → ck_nA s b = true := fun j b hb => List.all_eq_true.mp h _ (List.mem_of_getElem? hb)
  constructor
  · intro hl
    refine ⟨hl.1, fun j b hb => ?_⟩
    obtain ⟨u, h2, h3⟩ := hl.2 j b hb
    exact ⟨u, h2, (ck_nA_s (h1 j b hb)).mp h3⟩
  · intro hl
    refine ⟨hl.1, fun j b hb => ?_⟩
    obtain ⟨u, h2, h3⟩ := hl.2 j b hb
    exact ⟨u, h2, (ck_nA_s (h1 j b hb)).mpr h3⟩
theorem ck_nF_s {s : Nat} {v : Int} (h : ck_nF s F = true) : ck_gf (ck_us σ s v) F n K R M ↔ ck_gf σ F n K R M := by
  constructor
  · intro hf
    refine ⟨hf.1, hf.2.1, fun q hq => ⟨(hf.2.2 q hq).1, fun j h1 h2 => ?_⟩⟩
    have h3 := (hf.2.2 q hq).2 j h1 h2
    exact ⟨h3.1, (ck_nI_s (List.all_eq_true.mp h q hq)).mp h3.2⟩
  · intro hf
    refine ⟨hf.1, hf.2.1, fun q hq => ⟨(hf.2.2 q hq).1, fun j h1 h2 => ?_⟩⟩
    have h3 := (hf.2.2 q hq).2 j h1 h2
    exact ⟨h3.1, (ck_nI_s (List.all_eq_true.mp h q hq)).mpr h3.2⟩
/-- what stands at the place of a counter -/
def ck_lv (c : Nat ⊕ (Nat × Int)) (L : gm_L) (M : gm_M) (v : Int) : Prop := match c with
  | .inl j => L[j]? = some (some (gm_vi v))
  | .inr q => M q.1 q.2 = v
theorem ck_loc_s {c : Nat ⊕ (Nat × Int)} {a : ck_I} (hF : gm_Fx O n K R M) (hl : ck_gl σ AL L) (hf : ck_gf σ F n K R M) (h : ck_loc O c AL F = some a) : ∃ v, ck_lv c L M v ∧ gm_ir v ∧ ck_gi σ a v := by
  unfold ck_loc at h
  split at h
  · rename_i j
    split at h
    · rename_i b hb
      cases h
      obtain ⟨u, h1, x, rfl, h2, h3⟩ := hl.2 j _ hb
      exact ⟨x, h1, h2, h3⟩
    · cases h
  · rename_i q
    obtain ⟨-, h1⟩ := ck_rd_s hF hf h
    have h2 := h1 q.2 (Int.le_refl _) (Int.le_refl _)
    exact ⟨_, rfl, h2.1, h2.2⟩
theorem ck_lv_eq {c : Nat ⊕ (Nat × Int)} {v w : Int} (h1 : ck_lv c L M v) (h2 : ck_lv c L M w) : v = w := by
  rcases c with j | q
  · have h3 : some (some (gm_vi v)) = some (some (gm_vi w)) := (show L[j]? = _ from h1).symm.trans h2
    cases h3
    rfl
  · exact (show M q.1 q.2 = v from h1).symm.trans h2
theorem ck_b_s {c : Nat ⊕ (Nat × Int)} {s : Nat} {a : ck_I} {v : Int} (hF : gm_Fx O n K R M) (hs6 : s < 1000000) (hl : ck_gl σ AL L) (hf : ck_gf σ F n K R M) (hc : ck_loc O c AL F = some a) (hv : ck_lv c L M v) (hsv : σ s = v) : ck_gl σ (ck_bL c s a AL) L ∧ ck_gf σ (ck_bF c s a F) n K R M := by
  obtain ⟨w, h1, h2, h3⟩ := ck_loc_s hF hl hf hc
  have := ck_lv_eq h1 hv
  subst this
  have h4 : ck_gi σ (a.1, a.2.1, (s, 0) :: a.2.2) w := ⟨h3.1, h3.2.1, fun q hq => by
    rcases List.mem_cons.mp hq with rfl | hq
    · exact ⟨fun _ => by rw [hsv]; exact (Int.add_zero w).symm, fun e => absurd e (by dsimp only; omega)⟩
    · exact h3.2.2 q hq⟩
  unfold ck_bL ck_bF
  split
  · rename_i j
    refine ⟨⟨by simp [hl.1], fun i b hb => ?_⟩, hf⟩
    rw [List.getElem?_set] at hb
    by_cases e : j = i
    · rw [if_pos e] at hb
      split at hb
      · cases hb
        rw [← e]
        exact ⟨gm_vi w, h1, w, rfl, h2, h4⟩
      · cases hb
    · rw [if_neg e] at hb
      exact hl.2 i b hb
  · rename_i q
    refine ⟨hl, hf.1, hf.2.1, fun p hp => ?_⟩
    rcases List.mem_cons.mp hp with rfl | hp
    · obtain ⟨h5, -⟩ := ck_rd_s hF hf hc
      refine ⟨h5, fun j h6 h7 => ?_⟩
      have h8 : j = q.2 := Int.le_antisymm h7 h6
      subst h8
      have h9 : M q.1 q.2 = w := h1
      dsimp only
      rw [h9]
      exact ⟨h2, h4⟩
    · exact hf.2.2 p hp
/-- what is known of a cut on the way -/
def ck_Hy (O : gm_Or) (X : Int → Int) (LX mi d : Nat) (W : List (Nat × Int × Int) × List (Nat × Int)) (n0 : Nat) (K0 : gm_K) (R0 : gm_R) (M0 : gm_M) (Q : gm_Q) (σ : Nat → Int) (h : ck_H) : Prop :=
  ∀ (v : Int), ((h.2.1.2.2.1 = 0 ∨ 2000000 ≤ h.2.1.2.2.1) ∨ if h.2.1.2.2.2.2 = true then σ h.2.1.2.2.1 < v else v < σ h.2.1.2.2.1) → ∀ (bc bs : Nat) (L : gm_L) (K : gm_K) (R : gm_R) (M : gm_M), h.2.2.1 ≤ bc → h.2.2.2.1 ≤ bs → ck_St O σ W n0 K0 R0 M0 h.2.1.1 [] h.2.1.2.1 L [] h.2.2.2.2 K R M → ck_lv h.2.1.2.2.2.1 L M v → gm_Wp X LX d bc bs mi h.1 L [] h.2.2.2.2 K R M Q
theorem ck_Hy_us {Q : gm_Q} {h : ck_H} {s : Nat} {v : Int} (hs : ¬ h.2.1.2.2.1 = s) (h1 : ck_nL s h.2.1.1 = true) (h2 : ck_nF s h.2.1.2.1 = true) (hy : ck_Hy O X LX mi d W n0 K0 R0 M0 Q σ h) : ck_Hy O X LX mi d W n0 K0 R0 M0 Q (ck_us σ s v) h := by
  intro w hw bc bs L K R M a1 a2 a3 a4
  have e : ck_us σ s v h.2.1.2.2.1 = σ h.2.1.2.2.1 := by unfold ck_us; rw [if_neg hs]
  rw [e] at hw
  obtain ⟨f1, f2, f3, f4, f5⟩ := a3
  exact hy w hw bc bs L K R M a1 a2 ⟨f1, (ck_nL_s h1).mp f2, by cases f3; rfl, (ck_nF_s h2).mp f4, f5⟩ a4
theorem ck_cu_s {cuts : List (Nat × ck_C)} (h : ck_cu cuts = true) {p : Nat} {c c' : ck_C} (h1 : (p, c) ∈ cuts) (h2 : (p, c') ∈ cuts) (h3 : c.2.2.1 = c'.2.2.1) : c = c' := by
  have h4 := of_decide_eq_true (List.all_eq_true.mp h _ h1)
  have m1 : (p, c) ∈ cuts.filter fun q => q.1 == (p, c).1 && q.2.2.2.1 == (p, c).2.2.2.1 := List.mem_filter.mpr ⟨h1, by simp⟩
  have m2 : (p, c') ∈ cuts.filter fun q => q.1 == (p, c).1 && q.2.2.2.1 == (p, c).2.2.2.1 := List.mem_filter.mpr ⟨h2, by simp [h3]⟩
  revert h4 m1 m2
  generalize (cuts.filter fun q => q.1 == (p, c).1 && q.2.2.2.1 == (p, c).2.2.2.1) = l
  intro h4 m1 m2
  rcases l with _ | ⟨x, _ | ⟨y, l⟩⟩
  · cases m1
  · have e1 := List.mem_singleton.mp m1
    have e2 := List.mem_singleton.mp m2
    exact (Prod.mk.inj (e1.trans e2.symm)).2
  · simp at h4
theorem ck_go_s {cuts : List (Nat × ck_C)} (hcu : ck_cu cuts = true) (hE : ck_nmu O ∧ ck_OkE O X LX E) (hX : ∀ σ, ck_OkX σ X XF) (hlx : ∀ l, lx = some l → l = LX) : ∀ (f : Nat) (fst : Bool) (ch : List ck_H) (bc bs pc : Nat) (AL : ck_AL) (AS : ck_AS) (n : Nat) (F : ck_F) (σ : Nat → Int) (L : gm_L) (st : List gm_V) (K : gm_K) (R : gm_R) (M : gm_M), (∀ s, s < 100 → σ s = σ0 s) → (∀ h ∈ ch, (h.1, h.2.1) ∈ cuts ∧ ck_Hy O X LX mi d W n0 K0 R0 M0 (ck_Q O σ0 W n0 K0 R0 M0 outs) σ h) → ck_St O σ W n0 K0 R0 M0 AL AS F L st n K R M → ck_go O lx XF E mi d n0 W outs cuts f fst ch bc bs pc AL AS n F = true → gm_Wp X LX d bc bs mi pc L st n K R M (ck_Q O σ0 W n0 K0 R0 M0 outs) := by
  intro f
  induction f with
  | zero => intro fst ch bc bs pc AL AS n F σ L st K R M _ _ _ h; cases h
  | succ f ih =>
    intro fst ch bc bs pc AL AS n F σ L st K R M hs hch hS h
    unfold ck_go at h
    cases hcut : (if fst = true then none else cuts.find? fun q => q.1 == pc && (ck_leL AL q.2.1 && ck_leF O F q.2.2.1)) with
    | none =>
      rw [hcut] at h
      dsimp only at h
      cases hat : gm_at mi pc with
      | none => rw [hat] at h; cases h
      | some i =>
        rw [hat] at h
        dsimp only at h
        rw [ck_d_eq] at h
        exact ck_i_s hE (hX σ) hlx hs hat hS (fun bc bs pc AL AS n F L st K R M hk hS => ih false ch bc bs pc AL AS n F σ L st K R M hs hch hS hk) h
    | some qc =>
      obtain ⟨pc9, c⟩ := qc
      rw [hcut] at h
      dsimp only at h
      have hlk : (pc, c) ∈ cuts ∧ (ck_leL AL c.1 = true ∧ ck_leF O F c.2.1 = true) := by
        split at hcut
        · cases hcut
        · have h9 := List.find?_some hcut
          simp only [Bool.and_eq_true, beq_iff_eq] at h9
          have h8 := List.mem_of_find?_eq_some hcut
          rw [h9.1] at h8
          exact ⟨h8, h9.2⟩
      obtain ⟨hlk, h1, h2⟩ := hlk
      rw [Bool.and_eq_true, List.isEmpty_iff] at h
      obtain ⟨rfl, h⟩ := h
      obtain ⟨f1, f2, f3, f4, f5⟩ := hS
      cases f3
      have g2 := ck_leL_s h1 f2
      have g4 := ck_leF_s f1 f4 h2
      split at h
      · rename_i a a0 ha ha0
        obtain ⟨v, hv, hvi, hva⟩ := ck_loc_s f1 f2 f4 ha
        split at h
        · rename_i hc hfind
          have hm := List.mem_of_find?_eq_some hfind
          have hpc := List.find?_some hfind
          rw [Bool.and_eq_true, beq_iff_eq, beq_iff_eq] at hpc
          obtain ⟨hp1, hp2⟩ := hpc
          obtain ⟨hl2, hy⟩ := hch hc hm
          subst hp1
          have hp3 := ck_cu_s hcu hl2 hlk hp2
          subst hp3
          rw [Bool.and_eq_true] at h
          obtain ⟨h3, h4⟩ := h
          simp only [Bool.and_eq_true, beq_iff_eq, decide_eq_true_eq] at h3
          obtain ⟨rfl, h5, h6⟩ := h3
          rw [Bool.or_eq_true, Bool.or_eq_true, beq_iff_eq, decide_eq_true_eq] at h4
          rcases h4 with h4 | h4
          · exact hy v (.inl h4) bc bs L K R M h5 h6 ⟨f1, g2, rfl, g4, f5⟩ hv
          obtain ⟨q, ht, h4⟩ := List.any_eq_true.mp h4
          have hvq := hva.2.2 q ht
          refine hy v (.inr ?_) bc bs L K R M h5 h6 ⟨f1, g2, rfl, g4, f5⟩ hv
          simp only [Bool.or_eq_true, Bool.and_eq_true, beq_iff_eq, decide_eq_true_eq] at h4
          rcases h4 with ⟨h8, h9, h7⟩ | ⟨h8, h9, h10, h7⟩
          · have h11 := hvq.1 (by omega)
            rw [← h8, h11]
            split
            · rename_i e
              rw [if_pos e, decide_eq_true_eq] at h7
              omega
            · rename_i e
              rw [if_neg e, decide_eq_true_eq] at h7
              omega
          · have h11 := hvq.2 (by omega)
            have h12 : q.1 - 1000000 = hc.2.1.2.2.1 := by omega
            rw [h12] at h11
            rw [if_pos h10]
            omega
        · rw [Bool.and_eq_true] at h
          obtain ⟨h3, h⟩ := h
          simp only [Bool.and_eq_true, decide_eq_true_eq, List.all_eq_true, Bool.not_eq_true', beq_eq_false_iff_ne, ne_eq] at h3
          obtain ⟨h4, h5, h6, h7⟩ := h3
          -- by the counter
          have key : ∀ (m : Nat) (v : Int) (bc' bs' : Nat) (L : gm_L) (K : gm_K) (R : gm_R) (M : gm_M), (if c.2.2.2.2 = true then a0.2.1 - v else v - a0.1) < m → bc ≤ bc' → bs ≤ bs' → ck_St O σ W n0 K0 R0 M0 c.1 [] c.2.1 L [] n K R M → ck_lv c.2.2.2.1 L M v → gm_Wp X LX d bc' bs' mi pc L [] n K R M (ck_Q O σ0 W n0 K0 R0 M0 outs) := by
            intro m
            induction m with
            | zero =>
              intro v bc' bs' L K R M hm _ _ hS hv
              exfalso
              obtain ⟨w, w1, w2, w3⟩ := ck_loc_s hS.1 hS.2.1 hS.2.2.2.1 ha0
              have := ck_lv_eq w1 hv
              subst this
              have := w3.1
              have := w3.2.1
              split at hm <;> omega
            | succ m ihm =>
              intro v bc' bs' L K R M hm hb1 hb2 hS hv
              refine gm_Wp_wk (Nat.le_refl _) hb1 hb2 ?_
              obtain ⟨e1, e2, e3, e4, e5⟩ := hS
              have hsv : ck_us σ c.2.2.1 v c.2.2.1 = v := by unfold ck_us; rw [if_pos rfl]
              obtain ⟨b1, b2⟩ := ck_b_s e1 (s := c.2.2.1) h4.2 ((ck_nL_s (v := v) h6).mpr e2) ((ck_nF_s (v := v) h7).mpr e4) ha0 hv hsv
              refine ih true ((pc, c, bc, bs, n) :: ch) bc bs pc _ [] n _ (ck_us σ c.2.2.1 v) L [] K R M (fun s hs2 => ?_) (fun hc hm2 => ?_) ⟨e1, b1, rfl, b2, e5⟩ h
              · unfold ck_us
                rw [if_neg (by omega)]
                exact hs s hs2
              · rcases List.mem_cons.mp hm2 with rfl | hm2
                · refine ⟨hlk, ?_⟩
                  intro v' hv' bc'' bs'' L' K' R' M' a1 a2 a3 a4
                  obtain ⟨d1, d2, d3, d4, d5⟩ := a3
                  refine ihm v' bc'' bs'' L' K' R' M' ?_ a1 a2 ⟨d1, (ck_nL_s h6).mp d2, rfl, (ck_nF_s h7).mp d4, d5⟩ a4
                  dsimp only at hv'
                  replace hv' := hv'.resolve_left (by have := h4.1; have := h4.2; omega)
                  rw [hsv] at hv'
                  split at hm
                  · rename_i e
                    rw [if_pos e] at hv' ⊢
                    omega
                  · rename_i e
                    rw [if_neg e] at hv' ⊢
                    omega
                · obtain ⟨c1, c2⟩ := hch hc hm2
                  obtain ⟨c3, c4, c5⟩ := h5 hc hm2
                  exact ⟨c1, ck_Hy_us c3 c4 c5 c2⟩
          exact key ((if c.2.2.2.2 = true then a0.2.1 - v else v - a0.1).toNat + 1) v bc bs L K R M (by omega) (Nat.le_refl _) (Nat.le_refl _) ⟨f1, g2, rfl, g4, f5⟩ hv
      · cases h
theorem ck_ent : ∀ {as : List ck_A} {vs : List gm_V}, ck_gas σ as vs → as.length = vs.length ∧ ∀ (j : Nat) (b : ck_A), as[j]? = some b → ∃ u, vs[j]? = some u ∧ ck_ga σ b u := by
  intro as
  induction as with
  | nil => intro vs h; cases h; exact ⟨rfl, fun j b hb => by simp at hb⟩
  | cons a as ih =>
    intro vs h
    obtain ⟨v, ws, rfl, h1, h2⟩ := h
    obtain ⟨h3, h4⟩ := ih h2
    refine ⟨by simp [h3], fun j b hb => ?_⟩
    cases j with
    | zero =>
      simp only [List.getElem?_cons_zero, Option.some.injEq] at hb ⊢
      subst hb
      exact ⟨v, rfl, h1⟩
    | succ j =>
      simp only [List.getElem?_cons_succ] at hb ⊢
      exact h4 j b hb
/-- A METHOD that the checker has seen -/
theorem ck_ok_s {cuts : List (Nat × ck_C)} {f : Nat} {S : ck_Sum} (hE : ck_nmu O ∧ ck_OkE O X LX E) (hX : ∀ σ, ck_OkX σ X XF) (hlx : ∀ l, lx = some l → l = LX) (h : ck_ok O lx XF E mi cuts f S = true) : ck_Ok O X LX mi S := by
  intro d σ vs n K R M hd hn hvs _ hF hf
  unfold ck_ok at h
  simp only [Bool.and_eq_true, decide_eq_true_eq] at h
  obtain ⟨⟨h2, hcu⟩, h3⟩ := h
  subst hn
  obtain ⟨g1, g2⟩ := ck_ent hvs
  refine gm_Wp_wk hd (Nat.le_refl _) (Nat.le_refl _) (ck_go_s (σ0 := σ) hcu hE hX hlx f false [] _ _ 0 _ [] _ _ σ _ [] K R M (fun _ _ => rfl) (fun _ hm => nomatch hm) ⟨hF, ⟨?_, fun j b hb => ?_⟩, rfl, hf, ck_fr_0⟩ h3)
  · unfold gm_ent
    simp [g1]
  · unfold gm_ent
    rw [List.getElem?_append] at hb ⊢
    simp only [List.length_map] at hb ⊢
    split at hb
    · rename_i e
      rw [if_pos (by rw [← g1]; exact e)]
      rw [List.getElem?_map] at hb ⊢
      cases hq : S.2.2.1[j]? with
      | none => rw [hq] at hb; cases hb
      | some b' =>
        rw [hq] at hb
        cases hb
        obtain ⟨u, h4, h5⟩ := g2 j b hq
        exact ⟨u, by rw [h4]; rfl, h5⟩
    · exfalso
      have := List.mem_of_getElem? hb
      rw [List.mem_replicate] at this
      cases this.2
end CG
