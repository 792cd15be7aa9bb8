/-! LINES OF THE LAW that hold, by hand: a line's steps are reckoned on a row of numbers. -/
set_option maxRecDepth 100000 in
/-- GlacierMailModel.lanes -/
noncomputable def p2_fo0 : ck_Sum := ((0, 0, 0), 245, [.inr (.inr (.inl 226))], ([], [], []), ([], []), [(.inr (some (.inl (0, 6, []))), 245, ([], [], []))])
set_option maxRecDepth 100000 in
theorem p2_fo0_s {X : Int → Int} {LX : Nat} : ck_Ok p2_O X LX 261 p2_fo0 := ck_ok_s (O := p2_O) (X := X) (LX := LX) (E := []) (mi := 261) (cuts := []) (f := 80) (S := p2_fo0) (lx := none) (XF := []) ⟨p2_nmu, ck_E0⟩ ck_X0 ck_l0 (by decide +kernel)
set_option maxRecDepth 100000 in
/-- GlacierMailModel.factOf -/
noncomputable def p2_fo1 : ck_Sum := ((1, 0, 0), 245, [.inr (.inr (.inl 226)), .inl ((-1), 10, []), .inl ((-2147483648), 2147483647, [])], ([], [], []), ([], []), [(.inr (some (.inl ((-2147483648), 2147483647, []))), 245, ([], [], [])), (.inr (some (.inl (0, 299, []))), 245, ([], [], []))])
set_option maxRecDepth 100000 in
theorem p2_fo1_s {X : Int → Int} {LX : Nat} : ck_Ok p2_O X LX 296 p2_fo1 := ck_ok_s (O := p2_O) (X := X) (LX := LX) (E := [(261, [p2_fo0])]) (mi := 296) (cuts := []) (f := 100) (S := p2_fo1) (lx := none) (XF := []) ⟨p2_nmu, ck_E1 (ck_S1 p2_fo0_s ck_S0) ck_E0⟩ ck_X0 ck_l0 (by decide +kernel)
noncomputable def sl_W : List (Nat × Int × Int) × List (Nat × Int) := ([(233, 0, 399)], [])
noncomputable def sl_o : List ck_Oc := [(.inr (some (.inl (0, 1, []))), 245, ([], [], []))]
noncomputable def sl_E : List (Nat × List ck_Sum) := [(296, [p2_fo1])]
noncomputable def sl_C (δ : Int) : ck_C := ([some (.inr (.inr (.inl 226))), none, some (.inl (0, 400, [(50, δ)])), some (.inl (396, 440, [(52, 0)])), some (.inl (0, 400, [(51, 1)])), none, none, none, none], ([], [], []), 0, .inl 2, true)
noncomputable def sl_A (lo hi a b : Int) : ck_AL := [some (.inr (.inr (.inl 226))), none, some (.inl (lo, hi, [(50, 0)])), some (.inl (396, 440, [(52, 0)])), some (.inl (0, 399, [(51, 0)])), some (.inl (a, b, [])), none, none, none]
theorem sl_g1 : ck_go p2_O none [] sl_E 295 2 245 sl_W sl_o [(20, sl_C 1)] 300 true [(20, sl_C 1, 0, 0, 245)] 0 0 48 (sl_A 0 399 (-1) 10) [] 245 ([], [], []) = true := by decide +kernel
theorem sl_g2 : ck_go p2_O none [] sl_E 295 2 245 sl_W sl_o [(20, sl_C 0)] 300 true [(20, sl_C 0, 0, 0, 245)] 0 0 48 (sl_A 1 400 14 14) [] 245 ([], [], []) = true := by decide +kernel
theorem sl_g3 : ck_go p2_O none [] sl_E 295 2 245 sl_W sl_o [(20, sl_C (-1))] 300 true [(20, sl_C (-1), 0, 0, 245)] 0 0 48 (sl_A 2 400 11 13) [] 245 ([], [], []) = true := by decide +kernel
theorem sl_g4 : ck_go p2_O none [] sl_E 295 2 245 sl_W sl_o [(20, sl_C (-1))] 300 true [(20, sl_C (-1), 0, 0, 245)] 0 0 48 (sl_A 2 400 15 999) [] 245 ([], [], []) = true := by decide +kernel
theorem sl_g0 : ck_go p2_O none [] [] 295 2 245 sl_W sl_o [] 100 true [] 0 0 259 [some (.inr (.inr (.inl 226))), none, some (.inl (0, 400, [])), none, none, none, none, none, none] [] 245 ([], [], []) = true := by decide +kernel
theorem sl_t : gm_tyr p2_O 227 395 395 = some (0, 12) := by decide +kernel
theorem sl_t2 : gm_tyr p2_O 227 444 1243 = some (-1, 999) := by decide +kernel
section SL
variable {X : Int → Int} {LX : Nat}
theorem sl_hE : ck_nmu p2_O ∧ ck_OkE p2_O X LX sl_E := ⟨p2_nmu, ck_E1 (ck_S1 p2_fo1_s ck_S0) ck_E0⟩
theorem sl_Qm {W : List (Nat × Int × Int) × List (Nat × Int)} {σ σ' : Nat → Int} {n0 n : Nat} {K0 K : gm_K} {R0 R : gm_R} {M0 M : gm_M} {o : gm_O} (h : ck_Q p2_O σ W n0 K0 R0 M0 sl_o o n K R M) : ck_Q p2_O σ' W n0 K0 R0 M0 sl_o o n K R M := by
  obtain ⟨h1, h2, oc, h3, h4, h5, h6⟩ := h
  rw [List.mem_singleton.mp h3] at h4 h5
  refine ⟨h1, h2, _, List.mem_cons_self, ?_, h5, ⟨(fun _ h => nomatch h), (fun _ h => nomatch h), (fun _ h => nomatch h)⟩⟩
  rcases o with u | x
  · rcases u with _ | v
    · exact h4
    · obtain ⟨x, rfl, h7, h8, h9, -⟩ := h4
      exact ⟨x, rfl, h7, h8, h9, fun _ h => nomatch h⟩
  · exact h4
noncomputable def sl_σ (σ : Nat → Int) (a b c : Int) : Nat → Int := fun s => if s = 50 then a else if s = 51 then b else if s = 52 then c else σ s
theorem sl_go {bc bs : Nat} {σ : Nat → Int} {K0 : gm_K} {R0 : gm_R} {M0 : gm_M} {K : gm_K} {R : gm_R} {M : gm_M} {L : gm_L} {lo hi a b δ i top k step : Int} (hcu : ck_cu [(20, sl_C δ)] = true) (hg : ck_go p2_O none [] sl_E 295 2 245 sl_W sl_o [(20, sl_C δ)] 300 true [(20, sl_C δ, 0, 0, 245)] 0 0 48 (sl_A lo hi a b) [] 245 ([], [], []) = true)
    (hF : gm_Fx p2_O 245 K R M) (hfr : ck_fr sl_W 245 K0 R0 M0 245 K R M) (hL : L.length = 9) (l0 : L[0]? = some (some (gm_vr 226))) (l2 : L[2]? = some (some (gm_vi top))) (l3 : L[3]? = some (some (gm_vi k))) (l4 : L[4]? = some (some (gm_vi i))) (l5 : L[5]? = some (some (gm_vi step))) (htop : (lo ≤ top ∧ top ≤ hi) ∧ 0 ≤ top ∧ top ≤ 400) (hk : 396 ≤ k ∧ k ≤ 440) (hii : 0 ≤ i ∧ i ≤ 399) (hs : (a ≤ step ∧ step ≤ b) ∧ -1 ≤ step ∧ step ≤ 999)
    (hx : ∀ (bc bs : Nat) (L : gm_L) (K : gm_K) (R : gm_R) (M : gm_M), gm_Fx p2_O 245 K R M → ck_fr sl_W 245 K0 R0 M0 245 K R M → L.length = 9 → L[0]? = some (some (gm_vr 226)) → L[2]? = some (some (gm_vi (top + δ))) → L[3]? = some (some (gm_vi k)) → L[4]? = some (some (gm_vi (i + 1))) → gm_Wp X LX 2 bc bs 295 20 L [] 245 K R M (ck_Q p2_O σ sl_W 245 K0 R0 M0 sl_o)) : gm_Wp X LX 2 bc bs 295 48 L [] 245 K R M (ck_Q p2_O σ sl_W 245 K0 R0 M0 sl_o) := by
  refine gm_Wp_mono (fun o n K R M h => sl_Qm (σ := sl_σ σ top i k) h) ?_
  refine gm_Wp_wk (Nat.le_refl _) (Nat.zero_le _) (Nat.zero_le _) (ck_go_s (σ0 := sl_σ σ top i k) (cuts := [(20, sl_C δ)]) hcu sl_hE ck_X0 ck_l0 300 true [(20, sl_C δ, 0, 0, 245)] 0 0 48 (sl_A lo hi a b) [] 245 ([], [], []) (sl_σ σ top i k) L [] K R M (fun _ _ => rfl) (fun z hz => ?_) ⟨hF, ⟨by rw [hL]; rfl, fun j b hb => ?_⟩, rfl, ⟨(fun _ h => nomatch h), (fun _ h => nomatch h), (fun _ h => nomatch h)⟩, hfr⟩ hg)
  · rw [List.mem_singleton.mp hz]
    refine ⟨List.mem_cons_self, fun v _ bc bs L K R M _ _ hS _ => ?_⟩
    obtain ⟨hF, hl, -, -, hfr⟩ := hS
    obtain ⟨u0, e0, g0⟩ := hl.2 0 (.inr (.inr (.inl 226))) rfl
    cases g0
    obtain ⟨u2, e2, x2, rfl, -, -, -, t2⟩ := hl.2 2 (.inl (0, 400, [(50, δ)])) rfl
    obtain ⟨u3, e3, x3, rfl, -, -, -, t3⟩ := hl.2 3 (.inl (396, 440, [(52, 0)])) rfl
    obtain ⟨u4, e4, x4, rfl, -, -, -, t4⟩ := hl.2 4 (.inl (0, 400, [(51, 1)])) rfl
    have y2 : x2 = top + δ := (t2 (50, δ) List.mem_cons_self).1 (show 50 < 1000000 by decide)
    have y3 : x3 = k + 0 := (t3 (52, 0) List.mem_cons_self).1 (show 52 < 1000000 by decide)
    have y4 : x4 = i + 1 := (t4 (51, 1) List.mem_cons_self).1 (show 51 < 1000000 by decide)
    rw [Int.add_zero] at y3
    subst y2 y3 y4
    exact gm_Wp_mono (fun o n K R M h => sl_Qm h) (hx bc bs L K R M hF hfr hl.1.symm e0 e2 e3 e4)
  · rcases j with _ | _ | _ | _ | _ | _ | j
    · cases hb; exact ⟨_, l0, rfl⟩
    · cases hb
    · cases hb; exact ⟨_, l2, top, rfl, ⟨by omega, by omega⟩, htop.1.1, htop.1.2, fun q hq => by rw [List.mem_singleton.mp hq]; exact ⟨fun _ => by show top = top + 0; omega, fun h => absurd h (by decide)⟩⟩
    · cases hb; exact ⟨_, l3, k, rfl, ⟨by omega, by omega⟩, hk.1, hk.2, fun q hq => by rw [List.mem_singleton.mp hq]; exact ⟨fun _ => by show k = k + 0; omega, fun h => absurd h (by decide)⟩⟩
    · cases hb; exact ⟨_, l4, i, rfl, ⟨by omega, by omega⟩, hii.1, hii.2, fun q hq => by rw [List.mem_singleton.mp hq]; exact ⟨fun _ => by show i = i + 0; omega, fun h => absurd h (by decide)⟩⟩
    · cases hb; exact ⟨_, l5, step, rfl, ⟨by omega, by omega⟩, hs.1.1, hs.1.2, fun _ h => nomatch h⟩
    · rcases j with _ | _ | _ | j <;> cases hb
theorem sl_hold {bc bs : Nat} {σ : Nat → Int} {K0 : gm_K} {R0 : gm_R} {M0 : gm_M} {line : Int} (hF0 : gm_Fx p2_O 245 K0 R0 M0) (hl : 0 ≤ line ∧ line < 12) (hc : line < M0 227 395) : gm_Wp X LX 2 bc bs 295 0 (gm_ent 295 [gm_vr 226, gm_vi line]) [] 245 K0 R0 M0 (ck_Q p2_O σ sl_W 245 K0 R0 M0 sl_o) := by
  have hJ : j_J p2_ty K0 M0 := hF0.2.2.2.2
  obtain ⟨-, -, t7, -, -⟩ := hJ
  obtain ⟨⟨a1, a2, a3⟩, G, g0, gs⟩ := t7 line hl.1 hl.2 hc
  have e1 : (395 : Int) + (3 + 4 * line) = 396 + 4 * line + 2 := by omega
  have e2 : (395 : Int) + (4 + 4 * line) = 396 + 4 * line + 3 := by omega
  dsimp only at a1 a2 a3 g0 gs
  rw [e1] at a1 a2 g0 gs
  rw [e2] at a2 a3 gs
  generalize hk : 396 + 4 * line = k at *
  generalize hfi : M0 227 (k + 2) = first at *
  generalize hla : M0 227 (k + 3) = last at *
  have key : ∀ (m : Nat) (i top : Int) (bc bs : Nat) (L : gm_L) (K : gm_K) (R : gm_R) (M : gm_M), last - i = (m : Int) → first ≤ i → i ≤ last → G i = top → 0 ≤ top → top ≤ i - first → gm_Fx p2_O 245 K R M → ck_fr sl_W 245 K0 R0 M0 245 K R M → L.length = 9 → L[0]? = some (some (gm_vr 226)) → L[2]? = some (some (gm_vi top)) → L[3]? = some (some (gm_vi k)) → L[4]? = some (some (gm_vi i)) → gm_Wp X LX 2 bc bs 295 20 L [] 245 K R M (ck_Q p2_O σ sl_W 245 K0 R0 M0 sl_o) := by
    intro m
    induction m with
    | zero =>
      intro i top bc bs L K R M hm h1 h2 hG h3 h4 hF hfr hL l0 l2 l3 l4
      have hM : ∀ j, M 227 j = M0 227 j := fun j => hfr.2.2.1 227 j (by decide) (fun w hw e => by rw [List.mem_singleton.mp hw] at e; exact absurd e.1 (by decide))
      have w1 : gm_w (k + 3) = k + 3 := gm_w_id (by omega) (by omega)
      refine gm_sz (gm_p_load (pc := 20) (i := .iload 4) (sr := 0) (j := 4) (by decide +kernel) rfl l4 rfl) ?_
      refine gm_sz (gm_p_load (pc := 22) (i := .aload_n 0) (sr := 2) (j := 0) (by decide +kernel) rfl l0 rfl) ?_
      refine gm_sz (gm_p_get (pc := 23) (ix := 13) (ci := 11) (j := 1) (by decide +kernel) (md_mo hF).1 (md_mo hF).2 (by decide +kernel)) ?_
      rw [if_pos (show gm_isr 11 1 = true by decide +kernel), md_rf hF md_r.1.1]
      refine gm_sz (gm_p_load (pc := 26) (i := .iload_n 3) (sr := 0) (j := 3) (by decide +kernel) rfl l3 rfl) ?_
      refine gm_sz (gm_p_const (pc := 27) (i := .iconst 3) (v := gm_vi 3) (by decide +kernel) (by decide +kernel)) ?_
      refine gm_sz (gm_p_bin (pc := 28) (i := .iadd) (f := fun x y => x + y) (by decide +kernel) rfl) ?_
      refine gm_sz (gm_p_iald (pc := 29) (by decide +kernel) (md_kd hF md_o.1.2).1.1 (md_kd hF md_o.1.2).1.2 (by rw [w1, (md_kd hF md_o.1.2).2]; omega)) ?_
      rw [w1]
      rw [hM, hla]
      refine gm_b_ic (cc := .ge) (pc := 30) (off := 229) (by decide +kernel) (by decide) (fun _ => ?_) (fun hp => ?_)
      · refine gm_Wp_wk (Nat.le_refl _) (Nat.zero_le _) (Nat.zero_le _) (ck_go_s (σ0 := σ) (cuts := []) (by decide) ⟨p2_nmu, ck_E0⟩ ck_X0 ck_l0 100 true [] 0 0 259 [some (.inr (.inr (.inl 226))), none, some (.inl (0, 400, [])), none, none, none, none, none, none] [] 245 ([], [], []) σ L [] K R M (fun _ _ => rfl) (fun z hz => nomatch hz) ⟨hF, ⟨by rw [hL]; rfl, fun j b hb => ?_⟩, rfl, ⟨(fun _ h => nomatch h), (fun _ h => nomatch h), (fun _ h => nomatch h)⟩, hfr⟩ sl_g0)
        rcases j with _ | _ | _ | j
        · cases hb; exact ⟨_, l0, rfl⟩
        · cases hb
        · cases hb; exact ⟨_, l2, top, rfl, ⟨by omega, by omega⟩, by show (0 : Int) ≤ top; omega, by show top ≤ (400 : Int); omega, fun _ h => nomatch h⟩
        · rcases j with _ | _ | _ | _ | _ | _ | j <;> cases hb
      · rw [gm_cm_w ⟨by omega, by omega⟩ ⟨by omega, by omega⟩] at hp
        have hp : ¬ last ≤ i := hp
        omega
    | succ m ih =>
      intro i top bc bs L K R M hm h1 h2 hG h3 h4 hF hfr hL l0 l2 l3 l4
      have hM : ∀ j, M 227 j = M0 227 j := fun j => hfr.2.2.1 227 j (by decide) (fun w hw e => by rw [List.mem_singleton.mp hw] at e; exact absurd e.1 (by decide))
      have w1 : gm_w (k + 3) = k + 3 := gm_w_id (by omega) (by omega)
      have w2' : gm_w (444 + 2 * i) = 444 + 2 * i := gm_w_id (by omega) (by omega)
      refine gm_sz (gm_p_load (pc := 20) (i := .iload 4) (sr := 0) (j := 4) (by decide +kernel) rfl l4 rfl) ?_
      refine gm_sz (gm_p_load (pc := 22) (i := .aload_n 0) (sr := 2) (j := 0) (by decide +kernel) rfl l0 rfl) ?_
      refine gm_sz (gm_p_get (pc := 23) (ix := 13) (ci := 11) (j := 1) (by decide +kernel) (md_mo hF).1 (md_mo hF).2 (by decide +kernel)) ?_
      rw [if_pos (show gm_isr 11 1 = true by decide +kernel), md_rf hF md_r.1.1]
      refine gm_sz (gm_p_load (pc := 26) (i := .iload_n 3) (sr := 0) (j := 3) (by decide +kernel) rfl l3 rfl) ?_
      refine gm_sz (gm_p_const (pc := 27) (i := .iconst 3) (v := gm_vi 3) (by decide +kernel) (by decide +kernel)) ?_
      refine gm_sz (gm_p_bin (pc := 28) (i := .iadd) (f := fun x y => x + y) (by decide +kernel) rfl) ?_
      refine gm_sz (gm_p_iald (pc := 29) (by decide +kernel) (md_kd hF md_o.1.2).1.1 (md_kd hF md_o.1.2).1.2 (by rw [w1, (md_kd hF md_o.1.2).2]; omega)) ?_
      rw [w1]
      rw [hM, hla]
      refine gm_b_ic (cc := .ge) (pc := 30) (off := 229) (by decide +kernel) (by decide) (fun hp => ?_) (fun _ => ?_)
      · rw [gm_cm_w ⟨by omega, by omega⟩ ⟨by omega, by omega⟩] at hp
        have hp : last ≤ i := hp
        omega
      refine gm_sz (gm_p_load (pc := 33) (i := .aload_n 0) (sr := 2) (j := 0) (by decide +kernel) rfl l0 rfl) ?_
      refine gm_sz (gm_p_get (pc := 34) (ix := 13) (ci := 11) (j := 1) (by decide +kernel) (md_mo hF).1 (md_mo hF).2 (by decide +kernel)) ?_
      rw [if_pos (show gm_isr 11 1 = true by decide +kernel), md_rf hF md_r.1.1]
      refine gm_sz (gm_p_const (pc := 37) (i := .sipush 444) (v := gm_vi 444) (by decide +kernel) (by decide +kernel)) ?_
      refine gm_sz (gm_p_const (pc := 40) (i := .iconst 2) (v := gm_vi 2) (by decide +kernel) (by decide +kernel)) ?_
      refine gm_sz (gm_p_load (pc := 41) (i := .iload 4) (sr := 0) (j := 4) (by decide +kernel) rfl l4 rfl) ?_
      refine gm_sz (gm_p_bin (pc := 43) (i := .imul) (f := fun x y => x * y) (by decide +kernel) rfl) ?_
      refine gm_sz (gm_p_bin (pc := 44) (i := .iadd) (f := fun x y => x + y) (by decide +kernel) rfl) ?_
      refine gm_sz (gm_p_iald (pc := 45) (by decide +kernel) (md_kd hF md_o.1.2).1.1 (md_kd hF md_o.1.2).1.2 (by rw [w2', (md_kd hF md_o.1.2).2]; omega)) ?_
      rw [w2']
      refine gm_sz (gm_p_stor (pc := 46) (i := .istore 5) (sr := 0) (j := 5) (by decide +kernel) rfl (show 5 + 0 < L.length by omega) rfl) ?_
      have hst := ((gm_tyr_s hF sl_t2).2 (444 + 2 * i) (by omega) (by omega)).2
      have hs1 : (-1 : Int) ≤ M 227 (444 + 2 * i) := hst.1
      have hs2 : M 227 (444 + 2 * i) ≤ (999 : Int) := hst.2
      have hj := gs i h1 (by omega)
      rw [show (395 : Int) + (49 + 2 * i) = 444 + 2 * i by omega, ← hM] at hj
      generalize hstep : M 227 (444 + 2 * i) = step at *
      rw [show gm_lst L 5 (gm_vi step) = L.set 5 (some (gm_vi step)) by
        have e : gm_lc L 5 = L := by
          show (match L[4]? with
            | some (some (.inr (.inl _))) => L.set 4 none
            | _ => L) = L
          rw [l4]
        show (gm_lc L 5).set 5 (some (gm_vi step)) = _
        rw [e]]
      have q0 : (L.set 5 (some (gm_vi step)))[0]? = some (some (gm_vr 226)) := by rw [List.getElem?_set, if_neg (by decide), l0]
      have q2 : (L.set 5 (some (gm_vi step)))[2]? = some (some (gm_vi top)) := by rw [List.getElem?_set, if_neg (by decide), l2]
      have q3 : (L.set 5 (some (gm_vi step)))[3]? = some (some (gm_vi k)) := by rw [List.getElem?_set, if_neg (by decide), l3]
      have q4 : (L.set 5 (some (gm_vi step)))[4]? = some (some (gm_vi i)) := by rw [List.getElem?_set, if_neg (by decide), l4]
      have q5 : (L.set 5 (some (gm_vi step)))[5]? = some (some (gm_vi step)) := by rw [List.getElem?_set, if_pos rfl, if_pos (by omega)]
      have qL : (L.set 5 (some (gm_vi step))).length = 9 := by rw [List.length_set, hL]
      by_cases c1 : step ≤ 10
      · obtain ⟨r1, r2⟩ := hj.1 c1
        refine sl_go (δ := 1) (by decide +kernel) sl_g1 hF hfr qL q0 q2 q3 q4 q5 ⟨⟨by omega, by omega⟩, by omega, by omega⟩ ⟨by omega, by omega⟩ ⟨by omega, by omega⟩ ⟨⟨by omega, by omega⟩, by omega, by omega⟩ (fun bc bs L K R M z1 z2 z3 z4 z5 z6 z7 => ih (i + 1) (top + 1) bc bs L K R M (by omega) (by omega) (by omega) (by omega) (by omega) (by omega) z1 z2 z3 z4 z5 z6 z7)
      · by_cases c2 : step = 14
        · obtain ⟨r1, r2⟩ := hj.2.1 c2
          refine sl_go (δ := 0) (by decide +kernel) sl_g2 hF hfr qL q0 q2 q3 q4 q5 ⟨⟨by omega, by omega⟩, by omega, by omega⟩ ⟨by omega, by omega⟩ ⟨by omega, by omega⟩ ⟨⟨by omega, by omega⟩, by omega, by omega⟩ (fun bc bs L K R M z1 z2 z3 z4 z5 z6 z7 => ih (i + 1) (top + 0) bc bs L K R M (by omega) (by omega) (by omega) (by omega) (by omega) (by omega) z1 z2 z3 z4 z5 z6 z7)
        · obtain ⟨r1, r2⟩ := hj.2.2 (by omega) c2
          by_cases c3 : step ≤ 13
          · refine sl_go (δ := -1) (by decide +kernel) sl_g3 hF hfr qL q0 q2 q3 q4 q5 ⟨⟨by omega, by omega⟩, by omega, by omega⟩ ⟨by omega, by omega⟩ ⟨by omega, by omega⟩ ⟨⟨by omega, by omega⟩, by omega, by omega⟩ (fun bc bs L K R M z1 z2 z3 z4 z5 z6 z7 => ih (i + 1) (top + -1) bc bs L K R M (by omega) (by omega) (by omega) (by omega) (by omega) (by omega) z1 z2 z3 z4 z5 z6 z7)
          · refine sl_go (δ := -1) (by decide +kernel) sl_g4 hF hfr qL q0 q2 q3 q4 q5 ⟨⟨by omega, by omega⟩, by omega, by omega⟩ ⟨by omega, by omega⟩ ⟨by omega, by omega⟩ ⟨⟨by omega, by omega⟩, by omega, by omega⟩ (fun bc bs L K R M z1 z2 z3 z4 z5 z6 z7 => ih (i + 1) (top + -1) bc bs L K R M (by omega) (by omega) (by omega) (by omega) (by omega) (by omega) z1 z2 z3 z4 z5 z6 z7)
  have w1 : gm_w (k + 2) = k + 2 := gm_w_id (by omega) (by omega)
  refine gm_sz (gm_p_const (pc := 0) (i := .iconst 0) (v := gm_vi 0) (by decide +kernel) (by decide +kernel)) ?_
  refine gm_sz (gm_p_stor (pc := 1) (i := .istore_n 2) (sr := 0) (j := 2) (by decide +kernel) rfl (show 2 + 0 < 9 by decide) rfl) ?_
  refine gm_sz (gm_p_const (pc := 2) (i := .sipush 396) (v := gm_vi 396) (by decide +kernel) (by decide +kernel)) ?_
  refine gm_sz (gm_p_const (pc := 5) (i := .iconst 4) (v := gm_vi 4) (by decide +kernel) (by decide +kernel)) ?_
  refine gm_sz (gm_p_load (pc := 6) (i := .iload_n 1) (sr := 0) (j := 1) (by decide +kernel) rfl rfl rfl) ?_
  refine gm_sz (gm_p_bin (pc := 7) (i := .imul) (f := fun x y => x * y) (by decide +kernel) rfl) ?_
  refine gm_sz (gm_p_bin (pc := 8) (i := .iadd) (f := fun x y => x + y) (by decide +kernel) rfl) ?_
  rw [hk]
  refine gm_sz (gm_p_stor (pc := 9) (i := .istore_n 3) (sr := 0) (j := 3) (by decide +kernel) rfl (show 3 + 0 < 9 by decide) rfl) ?_
  refine gm_sz (gm_p_load (pc := 10) (i := .aload_n 0) (sr := 2) (j := 0) (by decide +kernel) rfl rfl rfl) ?_
  refine gm_sz (gm_p_get (pc := 11) (ix := 13) (ci := 11) (j := 1) (by decide +kernel) (md_mo hF0).1 (md_mo hF0).2 (by decide +kernel)) ?_
  rw [if_pos (show gm_isr 11 1 = true by decide +kernel), md_rf hF0 md_r.1.1]
  refine gm_sz (gm_p_load (pc := 14) (i := .iload_n 3) (sr := 0) (j := 3) (by decide +kernel) rfl rfl rfl) ?_
  refine gm_sz (gm_p_const (pc := 15) (i := .iconst 2) (v := gm_vi 2) (by decide +kernel) (by decide +kernel)) ?_
  refine gm_sz (gm_p_bin (pc := 16) (i := .iadd) (f := fun x y => x + y) (by decide +kernel) rfl) ?_
  refine gm_sz (gm_p_iald (pc := 17) (by decide +kernel) (md_kd hF0 md_o.1.2).1.1 (md_kd hF0 md_o.1.2).1.2 (by rw [w1, (md_kd hF0 md_o.1.2).2]; omega)) ?_
  rw [w1]
  rw [hfi]
  refine gm_sz (gm_p_stor (pc := 18) (i := .istore 4) (sr := 0) (j := 4) (by decide +kernel) rfl (show 4 + 0 < 9 by decide) rfl) ?_
  exact key (last - first).toNat first 0 bc bs _ K0 R0 M0 (by omega) (by omega) a2 g0 (by omega) (by omega) hF0 ck_fr_0 rfl rfl rfl rfl rfl
noncomputable def sl_so : List ck_Oc := [(.inr (some (.inl ck_top)), 245, ([], [], []))]
/-- GlacierMailModel.sumOf -/
noncomputable def sl_S : ck_Sum := ((3, 0, 0), 245, [.inr (.inr (.inl 226)), .inl (0, 2, [])], ([], [], []), sl_W, sl_so)
theorem sl_S_s : ck_Ok p2_O X LX 294 sl_S := by
  intro d σ vs n K0 R0 M0 hd hn hvs _ hF0 _
  obtain ⟨_, _, rfl, rfl, _, _, rfl, ⟨kind, rfl, kk, -, -, -⟩, rfl⟩ := hvs
  have hn : n = 245 := hn
  subst hn
  refine gm_Wp_wk (d' := 3) (bc' := 0) (bs' := 0) hd (Nat.le_refl _) (Nat.le_refl _) ?_
  have w8 : gm_w 8 = 8 := by decide
  have w395 : gm_w 395 = 395 := by decide
  have ex : ∀ (sum nn : Int) (K : gm_K) (R : gm_R) (M : gm_M), gm_Fx p2_O 245 K R M → ck_fr sl_W 245 K0 R0 M0 245 K R M → gm_Wp X LX 3 0 0 294 78 [some (gm_vr 226), some (gm_vi kind), some (gm_vi sum), some (gm_vi nn)] [] 245 K R M (ck_Q p2_O σ sl_W 245 K0 R0 M0 sl_so) := by
    intro sum nn K R M hF hfr
    refine gm_sz (gm_p_load (pc := 78) (i := .iload_n 2) (sr := 0) (j := 2) (by decide +kernel) rfl rfl rfl) ?_
    refine ck_nv ?_
    exact gm_r_int (pc := 79) (by decide +kernel) (Or.inl (by decide +kernel)) ⟨hF, hfr, _, List.mem_cons_self, ⟨_, rfl, ck_w_ir _, ck_top_s _⟩, rfl, ⟨(fun _ h => nomatch h), (fun _ h => nomatch h), (fun _ h => nomatch h)⟩⟩
  have key : ∀ (m : Nat) (nn sum : Int) (K : gm_K) (R : gm_R) (M : gm_M), 12 - nn = (m : Int) → 0 ≤ nn → gm_Fx p2_O 245 K R M → ck_fr sl_W 245 K0 R0 M0 245 K R M → gm_Wp X LX 3 0 0 294 4 [some (gm_vr 226), some (gm_vi kind), some (gm_vi sum), some (gm_vi nn)] [] 245 K R M (ck_Q p2_O σ sl_W 245 K0 R0 M0 sl_so) := by
    intro m
    induction m with
    | zero =>
      intro nn sum K R M hm h0 hF hfr
      have ht := ((gm_tyr_s hF sl_t).2 395 (Int.le_refl _) (Int.le_refl _)).2
      have ht1 : (0 : Int) ≤ M 227 395 := ht.1
      have ht2 : M 227 395 ≤ (12 : Int) := ht.2
      refine gm_sz (gm_p_load (pc := 4) (i := .aload_n 0) (sr := 2) (j := 0) (by decide +kernel) rfl rfl rfl) ?_
      refine gm_sz (gm_p_get (pc := 5) (ix := 13) (ci := 11) (j := 1) (by decide +kernel) (md_mo hF).1 (md_mo hF).2 (by decide +kernel)) ?_
      rw [if_pos (show gm_isr 11 1 = true by decide +kernel), md_rf hF md_r.1.1]
      refine gm_sz (gm_p_const (pc := 8) (i := .bipush 8) (v := gm_vi 8) (by decide +kernel) (by decide +kernel)) ?_
      refine gm_sz (gm_p_iald (pc := 10) (by decide +kernel) (md_kd hF md_o.1.2).1.1 (md_kd hF md_o.1.2).1.2 (by rw [w8, (md_kd hF md_o.1.2).2]; omega)) ?_
      rw [w8]
      refine gm_sz (gm_p_const (pc := 11) (i := .iconst 1) (v := gm_vi 1) (by decide +kernel) (by decide +kernel)) ?_
      refine gm_b_ic (cc := .ne) (pc := 12) (off := 66) (by decide +kernel) (by decide) (fun _ => ex sum nn K R M hF hfr) (fun _ => ?_)
      refine gm_sz (gm_p_load (pc := 15) (i := .iload_n 3) (sr := 0) (j := 3) (by decide +kernel) rfl rfl rfl) ?_
      refine gm_sz (gm_p_load (pc := 16) (i := .aload_n 0) (sr := 2) (j := 0) (by decide +kernel) rfl rfl rfl) ?_
      refine gm_sz (gm_p_get (pc := 17) (ix := 13) (ci := 11) (j := 1) (by decide +kernel) (md_mo hF).1 (md_mo hF).2 (by decide +kernel)) ?_
      rw [if_pos (show gm_isr 11 1 = true by decide +kernel), md_rf hF md_r.1.1]
      refine gm_sz (gm_p_const (pc := 20) (i := .sipush 395) (v := gm_vi 395) (by decide +kernel) (by decide +kernel)) ?_
      refine gm_sz (gm_p_iald (pc := 23) (by decide +kernel) (md_kd hF md_o.1.2).1.1 (md_kd hF md_o.1.2).1.2 (by rw [w395, (md_kd hF md_o.1.2).2]; omega)) ?_
      rw [w395]
      refine gm_b_ic (cc := .ge) (pc := 24) (off := 54) (by decide +kernel) (by decide) (fun _ => ex sum nn K R M hF hfr) (fun hp => ?_)
      rw [gm_cm_w ⟨by omega, by omega⟩ ⟨by omega, by omega⟩] at hp
      have hp : ¬ M 227 395 ≤ nn := hp
      omega
    | succ m ih =>
      intro nn sum K R M hm h0 hF hfr
      have ht := ((gm_tyr_s hF sl_t).2 395 (Int.le_refl _) (Int.le_refl _)).2
      have ht1 : (0 : Int) ≤ M 227 395 := ht.1
      have ht2 : M 227 395 ≤ (12 : Int) := ht.2
      have wk : gm_w (396 + 4 * nn) = 396 + 4 * nn := gm_w_id (by omega) (by omega)
      have wk1 : gm_w (396 + 4 * nn + 1) = 396 + 4 * nn + 1 := gm_w_id (by omega) (by omega)
      have tail : ∀ (x : Int) (K : gm_K) (R : gm_R) (M : gm_M), gm_Fx p2_O 245 K R M → ck_fr sl_W 245 K0 R0 M0 245 K R M → gm_Wp X LX 3 0 0 294 70 [some (gm_vr 226), some (gm_vi kind), some (gm_vi sum), some (gm_vi nn)] [gm_vi x, gm_vi sum] 245 K R M (ck_Q p2_O σ sl_W 245 K0 R0 M0 sl_so) := by
        intro x K R M hF hfr
        refine gm_sz (gm_p_bin (pc := 70) (i := .iadd) (f := fun x y => x + y) (by decide +kernel) rfl) ?_
        refine gm_sz (gm_p_stor (pc := 71) (i := .istore_n 2) (sr := 0) (j := 2) (by decide +kernel) rfl (show 2 + 0 < 4 by decide) rfl) ?_
        refine gm_sz (gm_p_iinc (pc := 72) (j := 3) (z := 1) (x := nn) (by decide +kernel) rfl) ?_
        refine gm_sz (gm_p_goto (pc := 75) (off := -71) (by decide +kernel) (by decide)) ?_
        exact ih (nn + 1) (sum + x) K R M (by omega) (by omega) hF hfr
      have t69 : ∀ (K : gm_K) (R : gm_R) (M : gm_M), gm_Fx p2_O 245 K R M → ck_fr sl_W 245 K0 R0 M0 245 K R M → gm_Wp X LX 3 0 0 294 69 [some (gm_vr 226), some (gm_vi kind), some (gm_vi sum), some (gm_vi nn)] [gm_vi sum] 245 K R M (ck_Q p2_O σ sl_W 245 K0 R0 M0 sl_so) := by
        intro K R M hF hfr
        refine gm_sz (gm_p_const (pc := 69) (i := .iconst 0) (v := gm_vi 0) (by decide +kernel) (by decide +kernel)) ?_
        exact tail 0 K R M hF hfr
      refine gm_sz (gm_p_load (pc := 4) (i := .aload_n 0) (sr := 2) (j := 0) (by decide +kernel) rfl rfl rfl) ?_
      refine gm_sz (gm_p_get (pc := 5) (ix := 13) (ci := 11) (j := 1) (by decide +kernel) (md_mo hF).1 (md_mo hF).2 (by decide +kernel)) ?_
      rw [if_pos (show gm_isr 11 1 = true by decide +kernel), md_rf hF md_r.1.1]
      refine gm_sz (gm_p_const (pc := 8) (i := .bipush 8) (v := gm_vi 8) (by decide +kernel) (by decide +kernel)) ?_
      refine gm_sz (gm_p_iald (pc := 10) (by decide +kernel) (md_kd hF md_o.1.2).1.1 (md_kd hF md_o.1.2).1.2 (by rw [w8, (md_kd hF md_o.1.2).2]; omega)) ?_
      rw [w8]
      refine gm_sz (gm_p_const (pc := 11) (i := .iconst 1) (v := gm_vi 1) (by decide +kernel) (by decide +kernel)) ?_
      refine gm_b_ic (cc := .ne) (pc := 12) (off := 66) (by decide +kernel) (by decide) (fun _ => ex sum nn K R M hF hfr) (fun _ => ?_)
      refine gm_sz (gm_p_load (pc := 15) (i := .iload_n 3) (sr := 0) (j := 3) (by decide +kernel) rfl rfl rfl) ?_
      refine gm_sz (gm_p_load (pc := 16) (i := .aload_n 0) (sr := 2) (j := 0) (by decide +kernel) rfl rfl rfl) ?_
      refine gm_sz (gm_p_get (pc := 17) (ix := 13) (ci := 11) (j := 1) (by decide +kernel) (md_mo hF).1 (md_mo hF).2 (by decide +kernel)) ?_
      rw [if_pos (show gm_isr 11 1 = true by decide +kernel), md_rf hF md_r.1.1]
      refine gm_sz (gm_p_const (pc := 20) (i := .sipush 395) (v := gm_vi 395) (by decide +kernel) (by decide +kernel)) ?_
      refine gm_sz (gm_p_iald (pc := 23) (by decide +kernel) (md_kd hF md_o.1.2).1.1 (md_kd hF md_o.1.2).1.2 (by rw [w395, (md_kd hF md_o.1.2).2]; omega)) ?_
      rw [w395]
      refine gm_b_ic (cc := .ge) (pc := 24) (off := 54) (by decide +kernel) (by decide) (fun _ => ex sum nn K R M hF hfr) (fun hp => ?_)
      rw [gm_cm_w ⟨by omega, by omega⟩ ⟨by omega, by omega⟩] at hp
      have hp : ¬ M 227 395 ≤ nn := hp
      refine gm_sz (gm_p_load (pc := 27) (i := .iload_n 2) (sr := 0) (j := 2) (by decide +kernel) rfl rfl rfl) ?_
      refine gm_sz (gm_p_load (pc := 28) (i := .aload_n 0) (sr := 2) (j := 0) (by decide +kernel) rfl rfl rfl) ?_
      refine gm_sz (gm_p_get (pc := 29) (ix := 13) (ci := 11) (j := 1) (by decide +kernel) (md_mo hF).1 (md_mo hF).2 (by decide +kernel)) ?_
      rw [if_pos (show gm_isr 11 1 = true by decide +kernel), md_rf hF md_r.1.1]
      refine gm_sz (gm_p_const (pc := 32) (i := .sipush 396) (v := gm_vi 396) (by decide +kernel) (by decide +kernel)) ?_
      refine gm_sz (gm_p_const (pc := 35) (i := .iconst 4) (v := gm_vi 4) (by decide +kernel) (by decide +kernel)) ?_
      refine gm_sz (gm_p_load (pc := 36) (i := .iload_n 3) (sr := 0) (j := 3) (by decide +kernel) rfl rfl rfl) ?_
      refine gm_sz (gm_p_bin (pc := 37) (i := .imul) (f := fun x y => x * y) (by decide +kernel) rfl) ?_
      refine gm_sz (gm_p_bin (pc := 38) (i := .iadd) (f := fun x y => x + y) (by decide +kernel) rfl) ?_
      refine gm_sz (gm_p_iald (pc := 39) (by decide +kernel) (md_kd hF md_o.1.2).1.1 (md_kd hF md_o.1.2).1.2 (by rw [wk, (md_kd hF md_o.1.2).2]; omega)) ?_
      rw [wk]
      refine gm_sz (gm_p_load (pc := 40) (i := .iload_n 1) (sr := 0) (j := 1) (by decide +kernel) rfl rfl rfl) ?_
      refine gm_b_ic (cc := .ne) (pc := 41) (off := 28) (by decide +kernel) (by decide) (fun _ => t69 K R M hF hfr) (fun _ => ?_)
      refine gm_sz (gm_p_load (pc := 44) (i := .aload_n 0) (sr := 2) (j := 0) (by decide +kernel) rfl rfl rfl) ?_
      refine gm_sz (gm_p_load (pc := 45) (i := .iload_n 3) (sr := 0) (j := 3) (by decide +kernel) rfl rfl rfl) ?_
      refine gm_c_virt (k := 226) (ci := 11) (mj := 295) (ix := 327) (pc := 46) (as := [gm_vi nn]) (st := [gm_vi sum]) (d' := 2) (bc' := 0) (bs' := 0) (by decide +kernel) (by decide +kernel) (by decide +kernel) (by decide +kernel) (md_mo hF).1 (md_mo hF).2 (by decide) (by decide +kernel) (show 1 = gm_na 295 by decide +kernel) (fun v hv => by rw [List.mem_singleton.mp hv]; simp [gm_sort]) (show 1 + 1 ≤ gm_ml 295 by decide +kernel) (Nat.le_of_ble_eq_true rfl) (by decide) (Nat.zero_le _) (Nat.zero_le _) ?_
      refine gm_Wp_mono (fun o n K1 R1 M1 h => ?_) (sl_hold (σ := σ) hF ⟨h0, by omega⟩ (by omega))
      obtain ⟨f1, f2, oc, f3, f4, f5, -⟩ := h
      rw [List.mem_singleton.mp f3] at f4 f5
      have f5 : n = 245 := f5
      subst f5
      have f6 := ck_fr_tr hfr f2 (by decide) (by decide)
      rcases o with (_ | v) | x
      · exact absurd f4 id
      · obtain ⟨b, rfl, -, -, -, -⟩ := f4
        show gm_Wp X LX 3 0 0 294 49 [some (gm_vr 226), some (gm_vi kind), some (gm_vi sum), some (gm_vi nn)] [gm_vi b, gm_vi sum] 245 K1 R1 M1 (ck_Q p2_O σ sl_W 245 K0 R0 M0 sl_so)
        refine gm_b_if (cc := .eq) (pc := 49) (off := 20) (by decide +kernel) (by decide) (fun _ => t69 K1 R1 M1 f1 f6) (fun _ => ?_)
        refine gm_sz (gm_p_load (pc := 52) (i := .aload_n 0) (sr := 2) (j := 0) (by decide +kernel) rfl rfl rfl) ?_
        refine gm_sz (gm_p_get (pc := 53) (ix := 13) (ci := 11) (j := 1) (by decide +kernel) (md_mo f1).1 (md_mo f1).2 (by decide +kernel)) ?_
        rw [if_pos (show gm_isr 11 1 = true by decide +kernel), md_rf f1 md_r.1.1]
        refine gm_sz (gm_p_const (pc := 56) (i := .sipush 396) (v := gm_vi 396) (by decide +kernel) (by decide +kernel)) ?_
        refine gm_sz (gm_p_const (pc := 59) (i := .iconst 4) (v := gm_vi 4) (by decide +kernel) (by decide +kernel)) ?_
        refine gm_sz (gm_p_load (pc := 60) (i := .iload_n 3) (sr := 0) (j := 3) (by decide +kernel) rfl rfl rfl) ?_
        refine gm_sz (gm_p_bin (pc := 61) (i := .imul) (f := fun x y => x * y) (by decide +kernel) rfl) ?_
        refine gm_sz (gm_p_bin (pc := 62) (i := .iadd) (f := fun x y => x + y) (by decide +kernel) rfl) ?_
        refine gm_sz (gm_p_const (pc := 63) (i := .iconst 1) (v := gm_vi 1) (by decide +kernel) (by decide +kernel)) ?_
        refine gm_sz (gm_p_bin (pc := 64) (i := .iadd) (f := fun x y => x + y) (by decide +kernel) rfl) ?_
        refine gm_sz (gm_p_iald (pc := 65) (by decide +kernel) (md_kd f1 md_o.1.2).1.1 (md_kd f1 md_o.1.2).1.2 (by rw [wk1, (md_kd f1 md_o.1.2).2]; omega)) ?_
        rw [wk1]
        refine gm_sz (gm_p_goto (pc := 66) (off := 4) (by decide +kernel) (by decide)) ?_
        exact tail _ K1 R1 M1 f1 f6
      · exact absurd f4 id
  refine gm_sz (gm_p_const (pc := 0) (i := .iconst 0) (v := gm_vi 0) (by decide +kernel) (by decide +kernel)) ?_
  refine gm_sz (gm_p_stor (pc := 1) (i := .istore_n 2) (sr := 0) (j := 2) (by decide +kernel) rfl (show 2 + 0 < 4 by decide) rfl) ?_
  refine gm_sz (gm_p_const (pc := 2) (i := .iconst 0) (v := gm_vi 0) (by decide +kernel) (by decide +kernel)) ?_
  refine gm_sz (gm_p_stor (pc := 3) (i := .istore_n 3) (sr := 0) (j := 3) (by decide +kernel) rfl (show 3 + 0 < 4 by decide) rfl) ?_
  exact key 12 0 0 K0 R0 M0 (by decide) (by decide) hF0 ck_fr_0
end SL
