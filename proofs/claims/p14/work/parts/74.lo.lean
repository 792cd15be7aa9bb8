/-! A STATE WITH A LAW: told.law is 246 (a Law), 247 its codes (of a length not known), 248 its Rows, 249 their numbers. -/
def l_fp (k : Nat) : List (Int × Int) := if k = 247 then [(-1, -1)] else j_fp k
def l_J (t : List (Int × Int × Int × Int)) (K : gm_K) (M : gm_M) : Prop := j_J t K M ∧ ∃ N : Nat, N ≤ 400 ∧ K 247 = (0, N)
theorem l_h {t : List (Int × Int × Int × Int)} : ∀ (K K' : gm_K) (M M' : gm_M), (∀ k r, r ∈ l_fp k → K' k = K k) → (∀ k r, r ∈ l_fp k → ∀ j, r.1 ≤ j → j ≤ r.2 → M' k j = M k j) → l_J t K M → l_J t K' M' := by
  intro K K' M M' hK hM hJ
  obtain ⟨hJ, N, hN, h7⟩ := hJ
  have e : ∀ k r, r ∈ j_fp k → r ∈ l_fp k := fun k r hr => by
    unfold l_fp
    rw [if_neg]
    · exact hr
    · rintro rfl
      rw [show j_fp 247 = [] by decide] at hr
      cases hr
  exact ⟨j_h K K' M M' (fun k r hr => hK k r (e k r hr)) (fun k r hr => hM k r (e k r hr)) hJ, N, hN, by rw [hK 247 (-1, -1) (by decide)]; exact h7⟩
def p2_LG (c : Option (Nat × Nat)) : gm_Or := (fun k => if k < 246 then p2_O.1 k else if k = 246 then some (14, 0) else if k = 247 then c else if k = 248 then some (6, 0) else if k = 249 then some (0, 48) else none, fun k j => if k < 246 then p2_O.2.1 k j else if k = 246 then (if j = 0 then some 248 else if j = 1 then some 247 else none) else if k = 248 then (if j = 2 then some 249 else none) else none, ⟨(fun k => if k < 246 then p2_O.2.2.ty k else if k = 248 then [(0, 0, 12, 12), (1, 1, 4, 4), (3, 3, 0, 12)] else [], l_fp, l_J p2_ty, p2_nm, none), ⟨l_h, fun _ h => nomatch h⟩⟩)
abbrev p2_OL : gm_Or := p2_LG none
abbrev p2_ON (N : Nat) : gm_Or := p2_LG (some (0, N))
theorem pl_nmu : ck_nmu p2_OL := p2_nmu
theorem pl_on {N n : Nat} {K : gm_K} {R : gm_R} {M : gm_M} (h : gm_Fx p2_OL n K R M) (hK : K 247 = (0, N)) : gm_Fx (p2_ON N) n K R M := by
  refine ⟨fun k q hq => ?_, h.2.1, h.2.2.1, h.2.2.2⟩
  by_cases e : k = 247
  · subst e
    cases hq
    exact ⟨by decide, h.2.2.2.1 247 (-1, -1) (by decide), hK⟩
  · refine h.1 k q ?_
    rw [← hq]
    show (if k < 246 then p2_O.1 k else if k = 246 then some (14, 0) else if k = 247 then none else if k = 248 then some (6, 0) else if k = 249 then some (0, 48) else none) = (if k < 246 then p2_O.1 k else if k = 246 then some (14, 0) else if k = 247 then some (0, N) else if k = 248 then some (6, 0) else if k = 249 then some (0, 48) else none)
    rw [if_neg e, if_neg e]
theorem pl_no {N n : Nat} {K : gm_K} {R : gm_R} {M : gm_M} (h : gm_Fx (p2_ON N) n K R M) : gm_Fx p2_OL n K R M := by
  refine ⟨fun k q hq => ?_, h.2.1, h.2.2.1, h.2.2.2⟩
  by_cases e : k = 247
  · subst e
    cases hq
  · refine h.1 k q ?_
    rw [← hq]
    show (if k < 246 then p2_O.1 k else if k = 246 then some (14, 0) else if k = 247 then some (0, N) else if k = 248 then some (6, 0) else if k = 249 then some (0, 48) else none) = (if k < 246 then p2_O.1 k else if k = 246 then some (14, 0) else if k = 247 then none else if k = 248 then some (6, 0) else if k = 249 then some (0, 48) else none)
    rw [if_neg e, if_neg e]
/-- GlacierMail$Law.holds -/
def lh_o : List ck_Oc := [(.inr (some (.inl (0, 1, []))), 249, ([], [], []))]
def lh_S : ck_Sum := ((0, 0, 0), 249, [.inr (.inr (.inl 246)), .inl (-2147483648, 2147483647, []), .inl (-2147483648, 2147483647, []), .inr (.inr (.inl 204))], ([], [], []), ([], []), lh_o)
def lh_C11 : ck_C := ([some (.inr (.inr (.inl 246))), none, some (.inl (-2147483648, 2147483647, [])), some (.inr (.inr (.inl 204))), some (.inl (0, 2147483647, [])), none, none, none, none, none, none, none, none, none], ([], [], []), 0, .inl 4, true)
def lh_A31 : ck_AL := [some (.inr (.inr (.inl 246))), none, none, some (.inr (.inr (.inl 204))), some (.inl (0, 2147483647, [])), some (.inl (-2147483648, 400, [(51, 0)])), none, none, none, none, none, none, none, none]
def lh_C55 (a : ck_I) : ck_C := ([some (.inr (.inr (.inl 246))), none, none, some (.inr (.inr (.inl 204))), none, some (.inl (-2147483648, 400, [(51, 0)])), some (.inl (-2147483648, 2147483647, [])), some (.inl (-2147483648, 2147483647, [])), some (.inl (-2147483648, 2147483647, [])), some (.inl a), none, none, none, none], ([], [], []), 0, .inl 9, true)
def lh_A71 : ck_AL := [some (.inr (.inr (.inl 246))), none, none, some (.inr (.inr (.inl 204))), none, some (.inl (-2147483648, 400, [(51, 0)])), some (.inl (-2147483648, 2147483647, [])), some (.inl (-2147483648, 2147483647, [])), some (.inl (-2147483648, 2147483647, [])), some (.inl (0, 399, [(50, 0)])), some (.inl (-2147483648, 2147483647, [])), none, none, none]
def lh_A296 : ck_AL := [none, none, none, none, none, none, some (.inl (-2147483648, 2147483647, [])), none, none, none, none, none, none, none]
theorem lh_a : (decide (lh_S.2.2.1.length ≤ gm_ml 41) && ck_go p2_OL none [] [] 41 lh_S.1.1 lh_S.2.1 lh_S.2.2.2.2.1 lh_S.2.2.2.2.2 [(11, lh_C11)] 60 false [(11, lh_C11, 0, 0, 249)] lh_S.1.2.1 lh_S.1.2.2 0 (lh_S.2.2.1.map some ++ List.replicate (gm_ml 41 - lh_S.2.2.1.length) none) [] lh_S.2.1 lh_S.2.2.2.1) = true := by decide +kernel
theorem lh_g31 : ck_go p2_OL none [] [] 41 0 249 ([], []) lh_o [(55, lh_C55 (0, 2147483647, []))] 60 true [(55, lh_C55 (0, 2147483647, []), 0, 0, 249)] 0 0 31 lh_A31 [] 249 ([], [], []) = true := by decide +kernel
theorem lh_g71 : ck_go p2_OL none [] [] 41 0 249 ([], []) lh_o [(55, lh_C55 (0, 400, [(50, 1)]))] 300 true [(55, lh_C55 (0, 400, [(50, 1)]), 0, 0, 249)] 0 0 71 lh_A71 [] 249 ([], [], []) = true := by decide +kernel
theorem lh_g296 : ck_go p2_OL none [] [] 41 0 249 ([], []) lh_o [] 60 true [] 0 0 296 lh_A296 [] 249 ([], [], []) = true := by decide +kernel
theorem lh_or : (p2_OL.1 246 = some (14, 0) ∧ p2_OL.2.1 246 ((1 : Nat) : Int) = some 247) := by decide +kernel
section LH
variable {X : Int → Int} {LX : Nat}
theorem lh_Qm {W : List (Nat × Int × Int) × List (Nat × Int)} {σ σ' : Nat → Int} {n0 n : Nat} {K0 K : gm_K} {R0 R : gm_R} {M0 M : gm_M} {o : gm_O} (h : ck_Q p2_OL σ W n0 K0 R0 M0 lh_o o n K R M) : ck_Q p2_OL σ' W n0 K0 R0 M0 lh_o o n K R M := by
  obtain ⟨h1, h2, oc, h3, h4, h5, h6⟩ := h
  rw [List.mem_singleton.mp h3] at h4 h5
  refine ⟨h1, h2, _, List.mem_cons_self, ?_, h5, ⟨(fun _ h => nomatch h), (fun _ h => nomatch h), (fun _ h => nomatch h)⟩⟩
  rcases o with u | x
  · rcases u with _ | v
    · exact h4
    · obtain ⟨x, rfl, h7, h8, h9, -⟩ := h4
      exact ⟨x, rfl, h7, h8, h9, fun _ h => nomatch h⟩
  · exact h4
def lh_σ (σ : Nat → Int) (a b : Int) : Nat → Int := fun s => if s = 50 then a else if s = 51 then b else σ s
theorem lh_g1 {σ : Nat → Int} {s : Nat} {x : Int} {c : ck_A} {a : ck_I} (h : c = .inl a) (hx : gm_ir x) (h1 : a.1 ≤ x) (h2 : x ≤ a.2.1) (h3 : a.2.2 = [] ∨ a.2.2 = [(s, 0)] ∧ s < 1000000 ∧ σ s = x) : ck_ga σ c (gm_vi x) := by
  subst h
  refine ⟨x, rfl, hx, h1, h2, ?_⟩
  rcases h3 with h3 | ⟨h3, h4, h5⟩
  · rw [h3]
    exact fun _ h => nomatch h
  · rw [h3]
    exact ck_gt1 h4 (by omega)
/-- the loop over the codes -/
theorem lh_lp {N : Nat} {x : Int} {σ : Nat → Int} {K0 : gm_K} {R0 : gm_R} {M0 : gm_M} (hN : N ≤ 400) (hK0 : K0 247 = (0, N)) (hx : x ≤ (N : Int) ∧ gm_ir x) : ∀ (m : Nat) (i : Int) (bc bs : Nat) (L : gm_L) (K : gm_K) (R : gm_R) (M : gm_M) (y6 y7 y8 : Int), x - i ≤ (m : Int) → 0 ≤ i → gm_ir i → gm_Fx p2_OL 249 K R M → ck_fr ([], []) 249 K0 R0 M0 249 K R M → L.length = 14 → L[0]? = some (some (gm_vr 246)) → L[3]? = some (some (gm_vr 204)) → L[5]? = some (some (gm_vi x)) → L[6]? = some (some (gm_vi y6)) → gm_ir y6 → L[7]? = some (some (gm_vi y7)) → gm_ir y7 → L[8]? = some (some (gm_vi y8)) → gm_ir y8 → L[9]? = some (some (gm_vi i)) → gm_Wp X LX 0 bc bs 41 55 L [] 249 K R M (ck_Q p2_OL σ ([], []) 249 K0 R0 M0 lh_o) := by
  intro m
  induction m with
  | zero =>
    intro i bc bs L K R M y6 y7 y8 hm h0 hi hF hfr hL l0 l3 l5 l6 i6 l7 i7 l8 i8 l9
    refine gm_sz (gm_p_load (pc := 55) (i := .iload 9) (sr := 0) (j := 9) (by decide +kernel) rfl l9 rfl) ?_
    refine gm_sz (gm_p_load (pc := 57) (i := .iload 5) (sr := 0) (j := 5) (by decide +kernel) rfl l5 rfl) ?_
    refine gm_b_ic (cc := .ge) (pc := 59) (off := 237) (by decide +kernel) (by decide) (fun _ => ?_) (fun hp => ?_)
    · refine gm_Wp_wk (Nat.le_refl _) (Nat.zero_le _) (Nat.zero_le _) (ck_go_s (σ0 := σ) (cuts := []) (by decide) ⟨pl_nmu, ck_E0⟩ ck_X0 ck_l0 60 true [] 0 0 296 lh_A296 [] 249 ([], [], []) σ L [] K R M (fun _ _ => rfl) (fun _ h => nomatch h) ⟨hF, ⟨by rw [hL]; rfl, fun j b hb => ?_⟩, rfl, ⟨(fun _ h => nomatch h), (fun _ h => nomatch h), (fun _ h => nomatch h)⟩, hfr⟩ lh_g296)
      rcases j with _ | _ | _ | _ | _ | _ | _ | j
      · cases hb
      · cases hb
      · cases hb
      · cases hb
      · cases hb
      · cases hb
      · cases hb; exact ⟨_, l6, lh_g1 (s := 0) rfl i6 i6.1 (by have := i6.2; show y6 ≤ (2147483647 : Int); omega) (Or.inl rfl)⟩
      · rcases j with _ | _ | _ | _ | _ | _ | _ | j <;> cases hb
    · rw [gm_cm_w hi hx.2] at hp
      have hp : ¬ x ≤ i := hp
      omega
  | succ m ih =>
    intro i bc bs L K R M y6 y7 y8 hm h0 hi hF hfr hL l0 l3 l5 l6 i6 l7 i7 l8 i8 l9
    obtain ⟨k1, k2, k3⟩ := hF.1 246 _ lh_or.1
    have kL : (1 ≤ 246 ∧ 246 ≤ 249) ∧ (K 246).1 = 10 + 4 := ⟨⟨by decide, by decide⟩, by rw [k3]⟩
    have rL := (hF.2.1 246 _ _ lh_or.2).2
    have kC : (1 ≤ 247 ∧ 247 ≤ 249) ∧ K 247 = (0, N) := ⟨⟨by decide, by decide⟩, (hfr.2.1 247 (by decide)).trans hK0⟩
    refine gm_sz (gm_p_load (pc := 55) (i := .iload 9) (sr := 0) (j := 9) (by decide +kernel) rfl l9 rfl) ?_
    refine gm_sz (gm_p_load (pc := 57) (i := .iload 5) (sr := 0) (j := 5) (by decide +kernel) rfl l5 rfl) ?_
    refine gm_b_ic (cc := .ge) (pc := 59) (off := 237) (by decide +kernel) (by decide) (fun _ => ?_) (fun hp => ?_)
    · refine gm_Wp_wk (Nat.le_refl _) (Nat.zero_le _) (Nat.zero_le _) (ck_go_s (σ0 := σ) (cuts := []) (by decide) ⟨pl_nmu, ck_E0⟩ ck_X0 ck_l0 60 true [] 0 0 296 lh_A296 [] 249 ([], [], []) σ L [] K R M (fun _ _ => rfl) (fun _ h => nomatch h) ⟨hF, ⟨by rw [hL]; rfl, fun j b hb => ?_⟩, rfl, ⟨(fun _ h => nomatch h), (fun _ h => nomatch h), (fun _ h => nomatch h)⟩, hfr⟩ lh_g296)
      rcases j with _ | _ | _ | _ | _ | _ | _ | j
      · cases hb
      · cases hb
      · cases hb
      · cases hb
      · cases hb
      · cases hb
      · cases hb; exact ⟨_, l6, lh_g1 (s := 0) rfl i6 i6.1 (by have := i6.2; show y6 ≤ (2147483647 : Int); omega) (Or.inl rfl)⟩
      · rcases j with _ | _ | _ | _ | _ | _ | _ | j <;> cases hb
    · rw [gm_cm_w hi hx.2] at hp
      have hp : ¬ x ≤ i := hp
      refine gm_sz (gm_p_load (pc := 62) (i := .aload_n 0) (sr := 2) (j := 0) (by decide +kernel) rfl l0 rfl) ?_
      refine gm_sz (gm_p_get (pc := 63) (ix := 22) (ci := 10) (j := 1) (by decide +kernel) kL.1 kL.2 (by decide +kernel)) ?_
      rw [if_pos (show gm_isr 10 1 = true by decide +kernel), rL]
      refine gm_sz (gm_p_load (pc := 66) (i := .iload 9) (sr := 0) (j := 9) (by decide +kernel) rfl l9 rfl) ?_
      refine gm_sz (gm_p_iald (pc := 68) (by decide +kernel) kC.1 (by rw [kC.2]) (by rw [gm_w_id (by omega) (by omega), kC.2]; omega)) ?_
      refine gm_sz (gm_p_stor (pc := 69) (i := .istore 10) (sr := 0) (j := 10) (by decide +kernel) rfl (show 10 + 0 < L.length by omega) rfl) ?_
      refine ck_nvL ?_
      generalize hc : gm_w (M 247 (gm_w i)) = cd
      have icd : gm_ir cd := by rw [← hc]; exact ck_w_ir _
      rw [show gm_lst L 10 (gm_vi cd) = L.set 10 (some (gm_vi cd)) by
        have e : gm_lc L 10 = L := by
          show (match L[9]? with
            | some (some (.inr (.inl _))) => L.set 9 none
            | _ => L) = L
          rw [l9]
        show (gm_lc L 10).set 10 (some (gm_vi cd)) = _
        rw [e]]
      refine gm_Wp_mono (fun o n K R M h => lh_Qm (σ := lh_σ σ i x) h) ?_
      refine gm_Wp_wk (Nat.le_refl _) (Nat.zero_le _) (Nat.zero_le _) (ck_go_s (σ0 := lh_σ σ i x) (cuts := [(55, lh_C55 (0, 400, [(50, 1)]))]) (by decide +kernel) ⟨pl_nmu, ck_E0⟩ ck_X0 ck_l0 300 true [(55, lh_C55 (0, 400, [(50, 1)]), 0, 0, 249)] 0 0 71 lh_A71 [] 249 ([], [], []) (lh_σ σ i x) _ [] K R M (fun _ _ => rfl) (fun z hz => ?_) ⟨hF, ⟨by rw [List.length_set, hL]; rfl, fun j b hb => ?_⟩, rfl, ⟨(fun _ h => nomatch h), (fun _ h => nomatch h), (fun _ h => nomatch h)⟩, hfr⟩ lh_g71)
      · rw [List.mem_singleton.mp hz]
        refine ⟨List.mem_cons_self, fun v _ bc bs L K R M _ _ hS _ => ?_⟩
        obtain ⟨hF, hl, -, -, hfr⟩ := hS
        obtain ⟨u0, e0, g0⟩ := hl.2 0 (.inr (.inr (.inl 246))) rfl
        cases g0
        obtain ⟨u3, e3, g3⟩ := hl.2 3 (.inr (.inr (.inl 204))) rfl
        cases g3
        obtain ⟨u5, e5, x5, rfl, -, -, -, t5⟩ := hl.2 5 (.inl (-2147483648, 400, [(51, 0)])) rfl
        obtain ⟨u6, e6, x6, rfl, g6, -⟩ := hl.2 6 (.inl (-2147483648, 2147483647, [])) rfl
        obtain ⟨u7, e7, x7, rfl, g7, -⟩ := hl.2 7 (.inl (-2147483648, 2147483647, [])) rfl
        obtain ⟨u8, e8, x8, rfl, g8, -⟩ := hl.2 8 (.inl (-2147483648, 2147483647, [])) rfl
        obtain ⟨u9, e9, x9, rfl, g9, -, -, t9⟩ := hl.2 9 (.inl (0, 400, [(50, 1)])) rfl
        have y5 : x5 = x + 0 := (t5 (51, 0) List.mem_cons_self).1 (show 51 < 1000000 by decide)
        have y9 : x9 = i + 1 := (t9 (50, 1) List.mem_cons_self).1 (show 50 < 1000000 by decide)
        rw [Int.add_zero] at y5
        subst y5 y9
        exact gm_Wp_mono (fun o n K R M h => lh_Qm h) (ih (i + 1) bc bs L K R M x6 x7 x8 (by omega) (by omega) g9 hF hfr hl.1.symm e0 e3 e5 e6 g6 e7 g7 e8 g8 e9)
      · have q : ∀ (j : Nat) (v : gm_V), ¬ j = 10 → L[j]? = some (some v) → (L.set 10 (some (gm_vi cd)))[j]? = some (some v) := fun j v hj hv => by rw [List.getElem?_set, if_neg (fun e => hj e.symm), hv]
        have tp : ∀ {y : Int} {σ : Nat → Int}, gm_ir y → ck_ga σ (.inl (-2147483648, 2147483647, [])) (gm_vi y) := fun h => lh_g1 (s := 0) rfl h h.1 (by have := h.2; show _ ≤ (2147483647 : Int); omega) (Or.inl rfl)
        rcases j with _ | _ | _ | _ | _ | _ | _ | _ | _ | _ | _ | j
        · cases hb; exact ⟨_, q 0 _ (by decide) l0, rfl⟩
        · cases hb
        · cases hb
        · cases hb; exact ⟨_, q 3 _ (by decide) l3, rfl⟩
        · cases hb
        · cases hb; exact ⟨_, q 5 _ (by decide) l5, lh_g1 (s := 51) rfl hx.2 hx.2.1 (by show x ≤ (400 : Int); omega) (Or.inr ⟨rfl, by decide, rfl⟩)⟩
        · cases hb; exact ⟨_, q 6 _ (by decide) l6, tp i6⟩
        · cases hb; exact ⟨_, q 7 _ (by decide) l7, tp i7⟩
        · cases hb; exact ⟨_, q 8 _ (by decide) l8, tp i8⟩
        · cases hb; exact ⟨_, q 9 _ (by decide) l9, lh_g1 (s := 50) rfl hi h0 (by show i ≤ (399 : Int); omega) (Or.inr ⟨rfl, by decide, rfl⟩)⟩
        · cases hb; exact ⟨_, by rw [List.getElem?_set, if_pos rfl, if_pos (by omega)], tp icd⟩
        · rcases j with _ | _ | _ | j <;> cases hb
theorem lh_S_s : ck_Ok p2_OL X LX 41 lh_S := by
  refine ck_ok_st (cuts := [(11, lh_C11)]) (by decide +kernel) ⟨pl_nmu, ck_E0⟩ lh_a (fun h hm => ?_)
  rw [List.mem_singleton.mp hm]
  refine ⟨List.mem_singleton.mpr rfl, fun σ K0 R0 M0 v _ bc bs L K R M _ _ hS _ => ?_⟩
  obtain ⟨hF, hl, -, -, hfr⟩ := hS
  have hF : gm_Fx p2_OL 249 K R M := hF
  have hfr : ck_fr ([], []) 249 K0 R0 M0 249 K R M := hfr
  have hL : L.length = 14 := hl.1.symm
  obtain ⟨N, hN, hK⟩ := hF.2.2.2.2.2
  obtain ⟨u0, l0, g0⟩ := hl.2 0 (.inr (.inr (.inl 246))) rfl
  cases g0
  obtain ⟨u3, l3, g3⟩ := hl.2 3 (.inr (.inr (.inl 204))) rfl
  cases g3
  obtain ⟨u2, l2, to, rfl, i2, -⟩ := hl.2 2 (.inl (-2147483648, 2147483647, [])) rfl
  obtain ⟨u4, l4, bg, rfl, i4, b1, b2, -⟩ := hl.2 4 (.inl (0, 2147483647, [])) rfl
  obtain ⟨k1, k2, k3⟩ := hF.1 246 _ lh_or.1
  have kL : (1 ≤ 246 ∧ 246 ≤ 249) ∧ (K 246).1 = 10 + 4 := ⟨⟨by decide, by decide⟩, by rw [k3]⟩
  have rL := (hF.2.1 246 _ _ lh_or.2).2
  have kC : (1 ≤ 247 ∧ 247 ≤ 249) ∧ K 247 = (0, N) := ⟨⟨by decide, by decide⟩, hK⟩
  have hK0 : K0 247 = (0, N) := (hfr.2.1 247 (by decide)).symm.trans hK
  have tail : ∀ x : Int, x ≤ (N : Int) → gm_ir x → gm_Wp X LX 0 bc bs 41 29 L [gm_vi x] 249 K R M (ck_Q p2_OL σ ([], []) 249 K0 R0 M0 lh_o) := by
    intro x hx ix
    refine gm_sz (gm_p_stor (pc := 29) (i := .istore 5) (sr := 0) (j := 5) (by decide +kernel) rfl (show 5 + 0 < L.length by omega) rfl) ?_
    rw [show gm_lst L 5 (gm_vi x) = L.set 5 (some (gm_vi x)) by
      have e : gm_lc L 5 = L := by
        show (match L[4]? with
          | some (some (.inr (.inl _))) => L.set 4 none
          | _ => L) = L
        rw [l4]
      show (gm_lc L 5).set 5 (some (gm_vi x)) = _
      rw [e]]
    have q : ∀ (j : Nat) (v : gm_V), ¬ j = 5 → L[j]? = some (some v) → (L.set 5 (some (gm_vi x)))[j]? = some (some v) := fun j v hj hv => by rw [List.getElem?_set, if_neg (fun e => hj e.symm), hv]
    refine gm_Wp_mono (fun o n K R M h => lh_Qm (σ := lh_σ σ 0 x) h) ?_
    refine gm_Wp_wk (Nat.le_refl _) (Nat.zero_le _) (Nat.zero_le _) (ck_go_s (σ0 := lh_σ σ 0 x) (cuts := [(55, lh_C55 (0, 2147483647, []))]) (by decide +kernel) ⟨pl_nmu, ck_E0⟩ ck_X0 ck_l0 60 true [(55, lh_C55 (0, 2147483647, []), 0, 0, 249)] 0 0 31 lh_A31 [] 249 ([], [], []) (lh_σ σ 0 x) _ [] K R M (fun _ _ => rfl) (fun z hz => ?_) ⟨hF, ⟨by rw [List.length_set, hL]; rfl, fun j b hb => ?_⟩, rfl, ⟨(fun _ h => nomatch h), (fun _ h => nomatch h), (fun _ h => nomatch h)⟩, hfr⟩ lh_g31)
    · rw [List.mem_singleton.mp hz]
      refine ⟨List.mem_cons_self, fun v _ bc bs L K R M _ _ hS _ => ?_⟩
      obtain ⟨hF, hl, -, -, hfr⟩ := hS
      obtain ⟨u0, e0, g0⟩ := hl.2 0 (.inr (.inr (.inl 246))) rfl
      cases g0
      obtain ⟨u3, e3, g3⟩ := hl.2 3 (.inr (.inr (.inl 204))) rfl
      cases g3
      obtain ⟨u5, e5, x5, rfl, -, -, -, t5⟩ := hl.2 5 (.inl (-2147483648, 400, [(51, 0)])) rfl
      obtain ⟨u6, e6, x6, rfl, g6, -⟩ := hl.2 6 (.inl (-2147483648, 2147483647, [])) rfl
      obtain ⟨u7, e7, x7, rfl, g7, -⟩ := hl.2 7 (.inl (-2147483648, 2147483647, [])) rfl
      obtain ⟨u8, e8, x8, rfl, g8, -⟩ := hl.2 8 (.inl (-2147483648, 2147483647, [])) rfl
      obtain ⟨u9, e9, x9, rfl, g9, g91, -⟩ := hl.2 9 (.inl (0, 2147483647, [])) rfl
      have y5 : x5 = x + 0 := (t5 (51, 0) List.mem_cons_self).1 (show 51 < 1000000 by decide)
      rw [Int.add_zero] at y5
      subst y5
      exact gm_Wp_mono (fun o n K R M h => lh_Qm h) (lh_lp (σ := σ) hN hK0 ⟨hx, ix⟩ (x5 - x9).toNat x9 bc bs L K R M x6 x7 x8 (by omega) (by have g91 : (0 : Int) ≤ x9 := g91; exact g91) g9 hF hfr hl.1.symm e0 e3 e5 e6 g6 e7 g7 e8 g8 e9)
    · rcases j with _ | _ | _ | _ | _ | _ | j
      · cases hb; exact ⟨_, q 0 _ (by decide) l0, rfl⟩
      · cases hb
      · cases hb
      · cases hb; exact ⟨_, q 3 _ (by decide) l3, rfl⟩
      · cases hb; exact ⟨_, q 4 _ (by decide) l4, lh_g1 (s := 0) rfl i4 b1 b2 (Or.inl rfl)⟩
      · cases hb; exact ⟨_, by rw [List.getElem?_set, if_pos rfl, if_pos (by omega)], lh_g1 (s := 51) rfl ix ix.1 (by show x ≤ (400 : Int); omega) (Or.inr ⟨rfl, by decide, rfl⟩)⟩
      · rcases j with _ | _ | _ | _ | _ | _ | _ | _ | j <;> cases hb
  refine gm_sz (gm_p_load (pc := 11) (i := .iload_n 2) (sr := 0) (j := 2) (by decide +kernel) rfl l2 rfl) ?_
  refine gm_sz (gm_p_load (pc := 12) (i := .aload_n 0) (sr := 2) (j := 0) (by decide +kernel) rfl l0 rfl) ?_
  refine gm_sz (gm_p_get (pc := 13) (ix := 22) (ci := 10) (j := 1) (by decide +kernel) kL.1 kL.2 (by decide +kernel)) ?_
  rw [if_pos (show gm_isr 10 1 = true by decide +kernel), rL]
  refine gm_sz (gm_p_alen (pc := 16) (by decide +kernel) kC.1 (by rw [kC.2]; exact Nat.zero_le _)) ?_
  rw [show ((K 247).2 : Int) = (N : Int) by rw [kC.2]]
  refine gm_b_ic (cc := .ge) (pc := 17) (off := 7) (by decide +kernel) (by decide) (fun _ => ?_) (fun hp => ?_)
  · skip
    refine gm_sz (gm_p_load (pc := 24) (i := .aload_n 0) (sr := 2) (j := 0) (by decide +kernel) rfl l0 rfl) ?_
    refine gm_sz (gm_p_get (pc := 25) (ix := 22) (ci := 10) (j := 1) (by decide +kernel) kL.1 kL.2 (by decide +kernel)) ?_
    rw [if_pos (show gm_isr 10 1 = true by decide +kernel), rL]
    refine gm_sz (gm_p_alen (pc := 28) (by decide +kernel) kC.1 (by rw [kC.2]; exact Nat.zero_le _)) ?_
    rw [show ((K 247).2 : Int) = (N : Int) by rw [kC.2]]
    exact tail N (Int.le_refl _) ⟨by omega, by omega⟩
  · rw [gm_cm_w i2 ⟨by omega, by omega⟩] at hp
    have hp : ¬ (N : Int) ≤ to := hp
    refine gm_sz (gm_p_load (pc := 20) (i := .iload_n 2) (sr := 0) (j := 2) (by decide +kernel) rfl l2 rfl) ?_
    refine gm_sz (gm_p_goto (pc := 21) (off := 8) (by decide +kernel) (by decide)) ?_
    exact tail to (by omega) i2
end LH
