/-! YEARS of the class, for any number from 1 to 50 at once: the loop by hand. -/
noncomputable def yy_A (a : ck_I) (s i : Option ck_A) : ck_AL := [some (.inr (.inr (.inl 1))), some (.inl a), s, i]
noncomputable def yy_F (RF : List (Nat × Int × Nat)) (y : ck_I) : ck_F := ([], RF, [(3, 6, 6, y)])
noncomputable def yy_C0 (RF : List (Nat × Int × Nat)) : ck_C := (yy_A (1, 50, []) none none, yy_F RF (0, 299, [(10, 0)]), 0, .inl 1, true)
noncomputable def yy_C1 (RF : List (Nat × Int × Nat)) (s : Nat) : ck_C := (yy_A (1, 50, [(302, 0)]) (some (.inl (ck_one 0))) (some (.inl (ck_one 0))), yy_F RF (0, 298, [(303, 0)]), s, .inl 3, true)
noncomputable def yy_C2 (RF : List (Nat × Int × Nat)) : ck_C := (yy_A (1, 50, [(302, 0)]) (some (.inl ck_top)) (some (.inl (1, 50, [(304, 1)]))), yy_F RF (1, 299, [(303, 1)]), 0, .inl 3, true)
theorem yy_gi {σ : Nat → Int} {a b x z : Int} {q : Nat} (ha : a ≤ x) (hb : x ≤ b) (hq : q < 1000000) (hx : x = σ q + z) : ck_gi σ (a, b, [(q, z)]) x := by
  refine ⟨ha, hb, fun p hp => ?_⟩
  rw [List.mem_singleton.mp hp]
  exact ⟨fun _ => hx, fun h => absurd h (by show ¬ 1000000 ≤ q; omega)⟩
theorem yy_u1 {σ : Nat → Int} {s : Nat} {v : Int} : ck_us σ s v s = v := if_pos rfl
theorem yy_u2 {σ : Nat → Int} {s q : Nat} {v : Int} (h : ¬ q = s) : ck_us σ s v q = σ q := if_neg h
theorem yy_mk {σ : Nat → Int} {L : gm_L} {x : Int} {a : ck_I} {s i : Option ck_A} (hl : L.length = 4) (h0 : L[0]? = some (some (gm_vr 1))) (h1 : L[1]? = some (some (gm_vi x))) (r1 : gm_ir x) (g1 : ck_gi σ a x) (h2 : ∀ b, s = some b → ∃ u, L[2]? = some (some u) ∧ ck_ga σ b u) (h3 : ∀ b, i = some b → ∃ u, L[3]? = some (some u) ∧ ck_ga σ b u) : ck_gl σ (yy_A a s i) L := by
  refine ⟨by rw [hl]; rfl, fun j b hb => ?_⟩
  rcases j with _ | _ | _ | _ | j
  · have hb : some (some (.inr (.inr (.inl 1)))) = some (some b) := hb
    cases hb
    exact ⟨_, h0, rfl⟩
  · have hb : some (some (.inl a)) = some (some b) := hb
    cases hb
    exact ⟨_, h1, x, rfl, r1, g1⟩
  · have hb : some s = some (some b) := hb
    injection hb with hb
    exact h2 b hb
  · have hb : some i = some (some b) := hb
    injection hb with hb
    exact h3 b hb
  · have hb : none = some (some b) := hb
    cases hb
/-- the locals in the loop -/
noncomputable def yy_P (L : gm_L) (x i : Int) : Prop := L.length = 4 ∧ L[0]? = some (some (gm_vr 1)) ∧ L[1]? = some (some (gm_vi x)) ∧ (∃ s, L[2]? = some (some (gm_vi s)) ∧ gm_ir s) ∧ L[3]? = some (some (gm_vi i))
theorem yy_top {σ : Nat → Int} {s : Int} (r : gm_ir s) : ck_ga σ (.inl ck_top) (gm_vi s) := by
  have r1 : -2147483648 ≤ s := r.1
  have r2 : s < 2147483648 := r.2
  exact ⟨s, rfl, r, r1, by show s ≤ 2147483647; omega, fun q hq => nomatch hq⟩
section YY
variable {X : Int → Int} {LX : Nat} {O : gm_Or} {E : List (Nat × List ck_Sum)} {d n f : Nat} {W : List (Nat × Int × Int) × List (Nat × Int)} {outs : List ck_Oc}
theorem yy_l {RF : List (Nat × Int × Nat)} {σ : Nat → Int} {K0 : gm_K} {R0 : gm_R} {M0 : gm_M} {x y : Int} (hE : ck_nmu O ∧ ck_OkE O X LX E) (h3 : 3 ≤ n) (hx : 1 ≤ x ∧ x ≤ 50) (hy : 0 ≤ y) (hxy : y + x ≤ 299)
    (g61 : ck_go O none [] E 161 d n W outs [(56, yy_C2 RF)] f true [(56, yy_C2 RF, 0, 0, n)] 0 0 61 (yy_A (1, 50, [(302, 0)]) (some (.inl ck_top)) (some (.inl (0, 49, [(304, 0)])))) [] n (yy_F RF (0, 298, [(303, 0)])) = true)
    (g74 : ck_go O none [] E 161 d n W outs [] f true [] 0 0 74 (yy_A (1, 50, []) (some (.inl ck_top)) none) [] n ([], RF, []) = true) : ∀ (j : Nat) (i : Int) (L : gm_L) (K : gm_K) (R : gm_R) (M : gm_M), 0 ≤ i → i ≤ x → x - i ≤ (j : Int) → yy_P L x i → gm_Fx O n K R M → ck_gf σ ([], RF, []) n K R M → gm_ir (M 3 6) → M 3 6 = y + i → ck_fr W n K0 R0 M0 n K R M → gm_Wp X LX d 0 0 161 56 L [] n K R M (ck_Q O σ W n K0 R0 M0 outs) := by
  have rx : gm_ir x := ⟨by omega, by omega⟩
  have step : ∀ (i : Int) (L : gm_L) (K : gm_K) (R : gm_R) (M : gm_M), 0 ≤ i → i ≤ x → yy_P L x i → gm_Fx O n K R M → ck_gf σ ([], RF, []) n K R M → gm_ir (M 3 6) → M 3 6 = y + i → ck_fr W n K0 R0 M0 n K R M → (i + 1 ≤ x → ∀ (L : gm_L) (K : gm_K) (R : gm_R) (M : gm_M), yy_P L x (i + 1) → gm_Fx O n K R M → ck_gf σ ([], RF, []) n K R M → gm_ir (M 3 6) → M 3 6 = y + (i + 1) → ck_fr W n K0 R0 M0 n K R M → gm_Wp X LX d 0 0 161 56 L [] n K R M (ck_Q O σ W n K0 R0 M0 outs)) → gm_Wp X LX d 0 0 161 56 L [] n K R M (ck_Q O σ W n K0 R0 M0 outs) := by
    intro i L K R M i0 ix ⟨p1, p2, p3, ⟨s, p4, rs⟩, p5⟩ hF hf rM hM hfr HI
    have ri : gm_ir i := ⟨by omega, by omega⟩
    refine gm_sz (gm_p_load (pc := 56) (i := .iload_n 3) (sr := 0) (j := 3) (by decide +kernel) rfl p5 rfl) ?_
    refine gm_sz (gm_p_load (pc := 57) (i := .iload_n 1) (sr := 0) (j := 1) (by decide +kernel) rfl p3 rfl) ?_
    refine gm_b_ic (cc := .ge) (pc := 58) (off := 16) (by decide +kernel) (by decide) (fun _ => ?_) (fun hp => ?_)
    · exact ck_go_s (σ0 := σ) (cuts := []) (by decide) hE ck_X0 ck_l0 f true [] 0 0 74 (yy_A (1, 50, []) (some (.inl ck_top)) none) [] n ([], RF, []) σ L [] K R M (fun _ _ => rfl) (fun _ h => nomatch h) ⟨hF, yy_mk p1 p2 p3 rx ⟨hx.1, hx.2, fun q hq => nomatch hq⟩ (fun b hb => by cases hb; exact ⟨_, p4, yy_top rs⟩) (fun b hb => nomatch hb), rfl, hf, hfr⟩ g74
    · rw [gm_cm_w ri rx] at hp
      have hp : ¬ x ≤ i := hp
      have s1 : ∀ s, s < 100 → ck_us (ck_us (ck_us σ 302 x) 303 (y + i)) 304 i s = σ s := fun s hs => by rw [yy_u2 (by omega), yy_u2 (by omega), yy_u2 (by omega)]
      have e2 : ck_us (ck_us (ck_us σ 302 x) 303 (y + i)) 304 i 302 = x := by rw [yy_u2 (by decide), yy_u2 (by decide), yy_u1]
      have e3 : ck_us (ck_us (ck_us σ 302 x) 303 (y + i)) 304 i 303 = y + i := by rw [yy_u2 (by decide), yy_u1]
      have e4 : ck_us (ck_us (ck_us σ 302 x) 303 (y + i)) 304 i 304 = i := yy_u1
      generalize ck_us (ck_us (ck_us σ 302 x) 303 (y + i)) 304 i = σ1 at s1 e2 e3 e4
      refine ck_go_s (σ0 := σ) (cuts := [(56, yy_C2 RF)]) (by simp [ck_cu]) hE ck_X0 ck_l0 f true [(56, yy_C2 RF, 0, 0, n)] 0 0 61 (yy_A (1, 50, [(302, 0)]) (some (.inl ck_top)) (some (.inl (0, 49, [(304, 0)])))) [] n (yy_F RF (0, 298, [(303, 0)])) σ1 L [] K R M s1 (fun h hm => ?_) ⟨hF, yy_mk p1 p2 p3 rx (yy_gi hx.1 hx.2 (by decide) (by rw [e2]; omega)) (fun b hb => by cases hb; exact ⟨_, p4, yy_top rs⟩) (fun b hb => by cases hb; exact ⟨_, p5, i, rfl, ri, yy_gi i0 (by omega) (by decide) (by rw [e4]; omega)⟩), rfl, ⟨(fun q hq => nomatch hq), hf.2.1, fun q hq => ?_⟩, hfr⟩ g61
      · rw [List.mem_singleton.mp hm]
        refine ⟨List.mem_singleton.mpr rfl, fun v _ bc bs L1 K1 R1 M1 _ _ hS _ => ?_⟩
        refine gm_Wp_wk (Nat.le_refl _) (Nat.zero_le _) (Nat.zero_le _) ?_
        obtain ⟨hF1, hl1, _, hf1, hfr1⟩ := hS
        have hl1 : ck_gl σ1 (yy_A (1, 50, [(302, 0)]) (some (.inl ck_top)) (some (.inl (1, 50, [(304, 1)])))) L1 := hl1
        have hf1 : ck_gf σ1 (yy_F RF (1, 299, [(303, 1)])) n K1 R1 M1 := hf1
        have hlen : 4 = L1.length := hl1.1
        obtain ⟨u0, l0, g0⟩ := hl1.2 0 (.inr (.inr (.inl 1))) rfl
        cases g0
        obtain ⟨u1, l1, x1, rfl, -, g1⟩ := hl1.2 1 (.inl (1, 50, [(302, 0)])) rfl
        obtain ⟨u2, l2, x2, rfl, r2, -⟩ := hl1.2 2 (.inl ck_top) rfl
        obtain ⟨u3, l3, x3, rfl, -, g3⟩ := hl1.2 3 (.inl (1, 50, [(304, 1)])) rfl
        obtain ⟨r6, g6⟩ := (hf1.2.2 (3, 6, 6, (1, 299, [(303, 1)])) (List.mem_singleton.mpr rfl)).2 6 (Int.le_refl _) (Int.le_refl _)
        have q1 : x1 = x := by
          have := (g1.2.2 (302, 0) (List.mem_singleton.mpr rfl)).1 (by decide)
          have : x1 = σ1 302 + 0 := this
          omega
        have q3 : x3 = i + 1 := by
          have := (g3.2.2 (304, 1) (List.mem_singleton.mpr rfl)).1 (by decide)
          have : x3 = σ1 304 + 1 := this
          omega
        have q6 : M1 3 6 = y + (i + 1) := by
          have := (g6.2.2 (303, 1) (List.mem_singleton.mpr rfl)).1 (by decide)
          have : M1 3 6 = σ1 303 + 1 := this
          omega
        rw [q1] at l1
        rw [q3] at l3
        exact HI (by omega) L1 K1 R1 M1 ⟨hlen.symm, l0, l1, ⟨x2, l2, r2⟩, l3⟩ hF1 ⟨(fun q hq => nomatch hq), hf1.2.1, fun q hq => nomatch hq⟩ r6 q6 hfr1
      · rw [List.mem_singleton.mp hq]
        refine ⟨h3, fun j j1 j2 => ?_⟩
        have j1 : (6 : Int) ≤ j := j1
        have j2 : j ≤ (6 : Int) := j2
        have j3 : j = 6 := by omega
        subst j3
        exact ⟨rM, yy_gi (by show 0 ≤ M 3 6; omega) (by show M 3 6 ≤ 298; omega) (by decide) (by show M 3 6 = σ1 303 + 0; omega)⟩
  intro j
  induction j with
  | zero =>
    intro i L K R M i0 ix ij hP hF hf rM hM hfr
    exact step i L K R M i0 ix hP hF hf rM hM hfr (fun h => absurd h (by omega))
  | succ j ih =>
    intro i L K R M i0 ix ij hP hF hf rM hM hfr
    exact step i L K R M i0 ix hP hF hf rM hM hfr (fun h L1 K1 R1 M1 hP1 hF1 hf1 rM1 hM1 hfr1 => ih (i + 1) L1 K1 R1 M1 (by omega) h (by omega) hP1 hF1 hf1 rM1 hM1 hfr1)
theorem yy_s {RF : List (Nat × Int × Nat)} {RS : List (Nat × List (Nat × Int × Nat))} {S : ck_Sum} {mc ms : Nat} (hE : ck_nmu O ∧ ck_OkE O X LX E) (o1 : O.1 1 = some (4, 0)) (o3 : O.1 3 = some (5, 0)) (o2 : O.2.1 1 ((3 : Nat) : Int) = some 3) (h3 : 3 ≤ S.2.1) (hmc : mc ≤ S.1.2.1) (hms : ms ≤ S.1.2.2)
    (ha : (decide (S.2.2.1.length ≤ gm_ml 161) && ck_go O none [] E 161 S.1.1 S.2.1 S.2.2.2.2.1 S.2.2.2.2.2 [(11, yy_C0 RF)] f false [(11, yy_C0 RF, mc, ms, S.2.1)] S.1.2.1 S.1.2.2 0 (S.2.2.1.map some ++ List.replicate (gm_ml 161 - S.2.2.1.length) none) [] S.2.1 S.2.2.2.1) = true)
    (hb : ck_go O none [] E 161 S.1.1 S.2.1 S.2.2.2.2.1 S.2.2.2.2.2 [] f true [] mc ms 26 (yy_A (1, 50, []) none none) [] S.2.1 (yy_F RF (0, 299, [(10, 0)])) = true)
    (hcu : ck_cu (RS.map fun p => (56, yy_C1 p.2 p.1)) = true)
    (hc : ck_go O none [] E 161 S.1.1 S.2.1 S.2.2.2.2.1 S.2.2.2.2.2 (RS.map fun p => (56, yy_C1 p.2 p.1)) f true (RS.map fun p => (56, yy_C1 p.2 p.1, 0, 0, S.2.1)) mc ms 37 (yy_A (1, 50, [(302, 0)]) none none) [] S.2.1 (yy_F RF (0, 298, [(10, 0), (303, 0)])) = true)
    (hd : (RS.all fun p => ck_go O none [] E 161 S.1.1 S.2.1 S.2.2.2.2.1 S.2.2.2.2.2 [(56, yy_C2 p.2)] f true [(56, yy_C2 p.2, 0, 0, S.2.1)] 0 0 61 (yy_A (1, 50, [(302, 0)]) (some (.inl ck_top)) (some (.inl (0, 49, [(304, 0)])))) [] S.2.1 (yy_F p.2 (0, 298, [(303, 0)])) && ck_go O none [] E 161 S.1.1 S.2.1 S.2.2.2.2.1 S.2.2.2.2.2 [] f true [] 0 0 74 (yy_A (1, 50, []) (some (.inl ck_top)) none) [] S.2.1 ([], p.2, [])) = true) : ck_Ok O X LX 161 S := by
  refine ck_ok_st (cuts := [(11, yy_C0 RF)]) (by simp [ck_cu]) hE ha (fun h hm => ?_)
  rw [List.mem_singleton.mp hm]
  refine ⟨List.mem_singleton.mpr rfl, fun σ K0 R0 M0 v _ bc bs L K R M hb1 hb2 hS _ => ?_⟩
  refine gm_Wp_wk (Nat.le_refl _) hb1 hb2 ?_
  obtain ⟨hF, hl, _, hf, hfr⟩ := hS
  have hl : ck_gl σ (yy_A (1, 50, []) none none) L := hl
  have hf : ck_gf σ (yy_F RF (0, 299, [(10, 0)])) S.2.1 K R M := hf
  show gm_Wp X LX S.1.1 mc ms 161 11 L [] S.2.1 K R M _
  have hlen : 4 = L.length := hl.1
  obtain ⟨u0, l0, g0⟩ := hl.2 0 (.inr (.inr (.inl 1))) rfl
  cases g0
  obtain ⟨u1, l1, x, rfl, rx, x1, x2, -⟩ := hl.2 1 (.inl (1, 50, [])) rfl
  have x1 : 1 ≤ x := x1
  have x2 : x ≤ 50 := x2
  obtain ⟨h6, h7⟩ := (hf.2.2 (3, 6, 6, (0, 299, [(10, 0)])) (List.mem_singleton.mpr rfl)).2 6 (Int.le_refl _) (Int.le_refl _)
  have h71 : (0 : Int) ≤ M 3 6 := h7.1
  have h72 : M 3 6 ≤ (299 : Int) := h7.2.1
  have h74 : M 3 6 = σ 10 + 0 := (h7.2.2 (10, 0) (List.mem_singleton.mpr rfl)).1 (by decide)
  obtain ⟨k1, k2, k3⟩ := hF.1 1 _ o1
  obtain ⟨k4, k5, k6⟩ := hF.1 3 _ o3
  have r3 := (hF.2.1 1 _ _ o2).2
  refine gm_sz (gm_p_load (pc := 11) (i := .iload_n 1) (sr := 0) (j := 1) (by decide +kernel) rfl l1 rfl) ?_
  refine gm_sz (gm_p_const (pc := 12) (i := .sipush 299) (v := gm_vi 299) (by decide +kernel) (by decide +kernel)) ?_
  refine gm_sz (gm_p_load (pc := 15) (i := .aload_n 0) (sr := 2) (j := 0) (by decide +kernel) rfl l0 rfl) ?_
  refine gm_sz (gm_p_get (pc := 16) (ix := 23) (ci := 0) (j := 3) (by decide +kernel) ⟨k1, k2⟩ (by rw [k3]) (by decide +kernel)) ?_
  rw [if_pos (show gm_isr 0 3 = true by decide +kernel), r3]
  refine gm_sz (gm_p_get (pc := 19) (ix := 269) (ci := 1) (j := 6) (by decide +kernel) ⟨k4, k5⟩ (by rw [k6]) (by decide +kernel)) ?_
  rw [if_neg (show ¬ gm_isr 1 6 = true by decide +kernel)]
  refine gm_sz (gm_p_bin (pc := 22) (i := .isub) (f := fun x y => x - y) (by decide +kernel) rfl) ?_
  have h73 : M 3 ((6 : Nat) : Int) = M 3 6 := rfl
  refine gm_b_ic (cc := .le) (pc := 23) (off := 14) (by decide +kernel) (by decide) (fun hp => ?_) (fun _ => ?_)
  · rw [gm_cm_w ⟨by omega, by omega⟩ ⟨by omega, by omega⟩] at hp
    have hp : x ≤ 299 - M 3 6 := hp
    have s1 : ∀ s, s < 100 → ck_us (ck_us σ 302 x) 303 (M 3 6) s = σ s := fun s hs => by rw [yy_u2 (by omega), yy_u2 (by omega)]
    have e2 : ck_us (ck_us σ 302 x) 303 (M 3 6) 302 = x := by rw [yy_u2 (by decide), yy_u1]
    have e3 : ck_us (ck_us σ 302 x) 303 (M 3 6) 303 = M 3 6 := yy_u1
    generalize ck_us (ck_us σ 302 x) 303 (M 3 6) = σ1 at s1 e2 e3
    refine ck_go_s (σ0 := σ) hcu hE ck_X0 ck_l0 f true (RS.map fun p => (56, yy_C1 p.2 p.1, 0, 0, S.2.1)) mc ms 37 (yy_A (1, 50, [(302, 0)]) none none) [] S.2.1 (yy_F RF (0, 298, [(10, 0), (303, 0)])) σ1 L [] K R M s1 (fun h hm => ?_) ⟨hF, yy_mk hlen.symm l0 l1 rx (yy_gi x1 x2 (by decide) (by rw [e2]; omega)) (fun b hb => nomatch hb) (fun b hb => nomatch hb), rfl, ⟨(fun q hq => nomatch hq), hf.2.1, fun q hq => ?_⟩, hfr⟩ hc
    · obtain ⟨p, hp9, rfl⟩ := List.mem_map.mp hm
      refine ⟨List.mem_map.mpr ⟨p, hp9, rfl⟩, fun v _ bc bs L1 K1 R1 M1 _ _ hS _ => ?_⟩
      have hd2 := List.all_eq_true.mp hd p hp9
      simp only [Bool.and_eq_true] at hd2
      refine gm_Wp_wk (Nat.le_refl _) (Nat.zero_le _) (Nat.zero_le _) ?_
      obtain ⟨hF1, hl1, _, hf1, hfr1⟩ := hS
      have hl1 : ck_gl σ1 (yy_A (1, 50, [(302, 0)]) (some (.inl (ck_one 0))) (some (.inl (ck_one 0)))) L1 := hl1
      have hf1 : ck_gf σ1 (yy_F p.2 (0, 298, [(303, 0)])) S.2.1 K1 R1 M1 := hf1
      have hlen1 : 4 = L1.length := hl1.1
      obtain ⟨u0, l0, g0⟩ := hl1.2 0 (.inr (.inr (.inl 1))) rfl
      cases g0
      obtain ⟨u1, l1, y1, rfl, -, g1⟩ := hl1.2 1 (.inl (1, 50, [(302, 0)])) rfl
      obtain ⟨u2, l2, y2, rfl, r2, -⟩ := hl1.2 2 (.inl (ck_one 0)) rfl
      obtain ⟨u3, l3, y3, rfl, -, g31, g32, -⟩ := hl1.2 3 (.inl (ck_one 0)) rfl
      obtain ⟨r6, g6⟩ := (hf1.2.2 (3, 6, 6, (0, 298, [(303, 0)])) (List.mem_singleton.mpr rfl)).2 6 (Int.le_refl _) (Int.le_refl _)
      have q1 : y1 = x := by
        have := (g1.2.2 (302, 0) (List.mem_singleton.mpr rfl)).1 (by decide)
        have : y1 = σ1 302 + 0 := this
        omega
      have q31 : 0 ≤ y3 := g31
      have q32 : y3 ≤ 0 := g32
      have q3 : y3 = 0 := by omega
      have q6 : M1 3 6 = M 3 6 + 0 := by
        have := (g6.2.2 (303, 0) (List.mem_singleton.mpr rfl)).1 (by decide)
        have : M1 3 6 = σ1 303 + 0 := this
        omega
      rw [q1] at l1
      rw [q3] at l3
      exact yy_l hE h3 ⟨x1, x2⟩ h71 (by omega) hd2.1 hd2.2 50 0 L1 K1 R1 M1 (by decide) (by omega) (by omega) ⟨hlen1.symm, l0, l1, ⟨y2, l2, r2⟩, l3⟩ hF1 ⟨(fun q hq => nomatch hq), hf1.2.1, fun q hq => nomatch hq⟩ r6 q6 hfr1
    · rw [List.mem_singleton.mp hq]
      refine ⟨h3, fun j j1 j2 => ?_⟩
      have j1 : (6 : Int) ≤ j := j1
      have j2 : j ≤ (6 : Int) := j2
      have j3 : j = 6 := by omega
      subst j3
      refine ⟨h6, h71, by show M 3 6 ≤ 298; omega, fun p hp1 => ?_⟩
      simp only [List.mem_cons, List.not_mem_nil, or_false] at hp1
      rcases hp1 with rfl | rfl
      · exact ⟨fun _ => by show M 3 6 = σ1 10 + 0; rw [s1 10 (by decide)]; exact h74, fun h => absurd h (by decide)⟩
      · exact ⟨fun _ => by show M 3 6 = σ1 303 + 0; rw [e3]; omega, fun h => absurd h (by decide)⟩
  · exact ck_go_s (σ0 := σ) (cuts := []) (by decide) hE ck_X0 ck_l0 f true [] mc ms 26 (yy_A (1, 50, []) none none) [] S.2.1 (yy_F RF (0, 299, [(10, 0)])) σ L [] K R M (fun _ _ => rfl) (fun _ h => nomatch h) ⟨hF, hl, rfl, hf, hfr⟩ hb
end YY
