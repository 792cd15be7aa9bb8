/-! 47.sl -/
section
/-! LINES OF THE LAW that hold, by hand: a line's steps are reckoned on a row of numbers. -/
set_option maxRecDepth 100000 in
/-- GlacierMailModel.lanes -/
def p2_fo0 : ck_Sum := ((0, 0, 0), 245, [.inr (.inr (.inl 226))], ([], [], []), ([], []), [(.inr (some (.inl (0, 6, []))), 245, ([], [], []))])
set_option maxRecDepth 100000 in
theorem p2_fo0_e : ck_ok p2_O none [] [] 261 [] 80 p2_fo0 = true := by decide +kernel
theorem p2_fo0_s {X : Int → Int} {LX : Nat} : ck_Ok p2_O X LX 261 p2_fo0 := ck_ok_s ⟨p2_nmu, ck_E0⟩ ck_X0 ck_l0 p2_fo0_e
set_option maxRecDepth 100000 in
/-- GlacierMailModel.factOf -/
def p2_fo1 : ck_Sum := ((1, 0, 0), 245, [.inr (.inr (.inl 226)), .inl ((-1), 10, []), .inl ((-2147483648), 2147483647, [])], ([], [], []), ([], []), [(.inr (some (.inl ((-2147483648), 2147483647, []))), 245, ([], [], [])), (.inr (some (.inl (0, 299, []))), 245, ([], [], []))])
set_option maxRecDepth 100000 in
theorem p2_fo1_e : ck_ok p2_O none [] [(261, [p2_fo0])] 296 [] 100 p2_fo1 = true := by decide +kernel
theorem p2_fo1_s {X : Int → Int} {LX : Nat} : ck_Ok p2_O X LX 296 p2_fo1 := ck_ok_s ⟨p2_nmu, ck_E1 (ck_S1 p2_fo0_s ck_S0) ck_E0⟩ ck_X0 ck_l0 p2_fo1_e
def sl_W : List (Nat × Int × Int) × List (Nat × Int) := ([(233, 0, 399)], [])
def sl_o : List ck_Oc := [(.inr (some (.inl (0, 1, []))), 245, ([], [], []))]
def sl_E : List (Nat × List ck_Sum) := [(296, [p2_fo1])]
def sl_C (δ : Int) : ck_C := ([some (.inr (.inr (.inl 226))), none, some (.inl (0, 400, [(50, δ)])), some (.inl (396, 440, [(52, 0)])), some (.inl (0, 400, [(51, 1)])), none, none, none, none], ([], [], []), 0, .inl 2, true)
def sl_A (lo hi a b : Int) : ck_AL := [some (.inr (.inr (.inl 226))), none, some (.inl (lo, hi, [(50, 0)])), some (.inl (396, 440, [(52, 0)])), some (.inl (0, 399, [(51, 0)])), some (.inl (a, b, [])), none, none, none]
theorem sl_g1 : ck_go p2_O none [] sl_E 295 2 245 sl_W sl_o [(20, sl_C 1)] 300 true [(20, sl_C 1, 0, 0, 245)] 0 0 48 (sl_A 0 399 (-1) 10) [] 245 ([], [], []) = true := by decide +kernel
theorem sl_g2 : ck_go p2_O none [] sl_E 295 2 245 sl_W sl_o [(20, sl_C 0)] 300 true [(20, sl_C 0, 0, 0, 245)] 0 0 48 (sl_A 1 400 14 14) [] 245 ([], [], []) = true := by decide +kernel
theorem sl_g3 : ck_go p2_O none [] sl_E 295 2 245 sl_W sl_o [(20, sl_C (-1))] 300 true [(20, sl_C (-1), 0, 0, 245)] 0 0 48 (sl_A 2 400 11 13) [] 245 ([], [], []) = true := by decide +kernel
theorem sl_g4 : ck_go p2_O none [] sl_E 295 2 245 sl_W sl_o [(20, sl_C (-1))] 300 true [(20, sl_C (-1), 0, 0, 245)] 0 0 48 (sl_A 2 400 15 999) [] 245 ([], [], []) = true := by decide +kernel
theorem sl_g0 : ck_go p2_O none [] [] 295 2 245 sl_W sl_o [] 100 true [] 0 0 259 [some (.inr (.inr (.inl 226))), none, some (.inl (0, 400, [])), none, none, none, none, none, none] [] 245 ([], [], []) = true := by decide +kernel
theorem sl_t : gm_tyr p2_O 227 395 395 = some (0, 12) := by decide +kernel
theorem sl_t2 : gm_tyr p2_O 227 444 1243 = some (-1, 999) := by decide +kernel
theorem sl_t3 : (List.range 12).all (fun (l : Nat) => match gm_tyr p2_O 227 (397 + 4 * (l : Int)) (397 + 4 * (l : Int)) with
  | some q => decide (-1 ≤ q.1) && decide (q.2 ≤ 20)
  | none => false) = true := by decide +kernel
section SL
variable {X : Int → Int} {LX : Nat}
theorem sl_hE : ck_nmu p2_O ∧ ck_OkE p2_O X LX sl_E := ⟨p2_nmu, ck_E1 (ck_S1 p2_fo1_s ck_S0) ck_E0⟩
theorem sl_Qm {W : List (Nat × Int × Int) × List (Nat × Int)} {σ σ' : Nat → Int} {n0 n : Nat} {K0 K : gm_K} {R0 R : gm_R} {M0 M : gm_M} {o : gm_O} (h : ck_Q p2_O σ W n0 K0 R0 M0 sl_o o n K R M) : ck_Q p2_O σ' W n0 K0 R0 M0 sl_o o n K R M := by
  obtain ⟨h1, h2, oc, h3, h4, h5, h6⟩ := h
  rw [List.mem_singleton.mp h3] at h4 h5
  refine ⟨h1, h2, _, List.mem_cons_self, ?_, h5, ⟨(fun _ h => nomatch h), (fun _ h => nomatch h), (fun _ h => nomatch h)⟩⟩
  rcases o with u | x
  · rcases u with _ | v
    · exact h4
    · obtain ⟨x, rfl, h7, h8, h9, -⟩ := h4
      exact ⟨x, rfl, h7, h8, h9, fun _ h => nomatch h⟩
  · exact h4
def sl_σ (σ : Nat → Int) (a b c : Int) : Nat → Int := fun s => if s = 50 then a else if s = 51 then b else if s = 52 then c else σ s
theorem sl_go {bc bs : Nat} {σ : Nat → Int} {K0 : gm_K} {R0 : gm_R} {M0 : gm_M} {K : gm_K} {R : gm_R} {M : gm_M} {L : gm_L} {lo hi a b δ i top k step : Int} (hcu : ck_cu [(20, sl_C δ)] = true) (hg : ck_go p2_O none [] sl_E 295 2 245 sl_W sl_o [(20, sl_C δ)] 300 true [(20, sl_C δ, 0, 0, 245)] 0 0 48 (sl_A lo hi a b) [] 245 ([], [], []) = true)
    (hF : gm_Fx p2_O 245 K R M) (hfr : ck_fr sl_W 245 K0 R0 M0 245 K R M) (hL : L.length = 9) (l0 : L[0]? = some (some (gm_vr 226))) (l2 : L[2]? = some (some (gm_vi top))) (l3 : L[3]? = some (some (gm_vi k))) (l4 : L[4]? = some (some (gm_vi i))) (l5 : L[5]? = some (some (gm_vi step))) (htop : (lo ≤ top ∧ top ≤ hi) ∧ 0 ≤ top ∧ top ≤ 400) (hk : 396 ≤ k ∧ k ≤ 440) (hii : 0 ≤ i ∧ i ≤ 399) (hs : (a ≤ step ∧ step ≤ b) ∧ -1 ≤ step ∧ step ≤ 999)
    (hx : ∀ (bc bs : Nat) (L : gm_L) (K : gm_K) (R : gm_R) (M : gm_M), gm_Fx p2_O 245 K R M → ck_fr sl_W 245 K0 R0 M0 245 K R M → L.length = 9 → L[0]? = some (some (gm_vr 226)) → L[2]? = some (some (gm_vi (top + δ))) → L[3]? = some (some (gm_vi k)) → L[4]? = some (some (gm_vi (i + 1))) → gm_Wp X LX 2 bc bs 295 20 L [] 245 K R M (ck_Q p2_O σ sl_W 245 K0 R0 M0 sl_o)) : gm_Wp X LX 2 bc bs 295 48 L [] 245 K R M (ck_Q p2_O σ sl_W 245 K0 R0 M0 sl_o) := by
  refine gm_Wp_mono (fun o n K R M h => sl_Qm (σ := sl_σ σ top i k) h) ?_
  refine gm_Wp_wk (Nat.le_refl _) (Nat.zero_le _) (Nat.zero_le _) (ck_go_s (σ0 := sl_σ σ top i k) (cuts := [(20, sl_C δ)]) hcu sl_hE ck_X0 ck_l0 300 true [(20, sl_C δ, 0, 0, 245)] 0 0 48 (sl_A lo hi a b) [] 245 ([], [], []) (sl_σ σ top i k) L [] K R M (fun _ _ => rfl) (fun z hz => ?_) ⟨hF, ⟨by rw [hL]; rfl, fun j b hb => ?_⟩, rfl, ⟨(fun _ h => nomatch h), (fun _ h => nomatch h), (fun _ h => nomatch h)⟩, hfr⟩ hg)
  · rw [List.mem_singleton.mp hz]
    refine ⟨List.mem_cons_self, fun v _ bc bs L K R M _ _ hS _ => ?_⟩
    obtain ⟨hF, hl, -, -, hfr⟩ := hS
    obtain ⟨u0, e0, g0⟩ := hl.2 0 (.inr (.inr (.inl 226))) rfl
    cases g0
    obtain ⟨u2, e2, x2, rfl, -, -, -, t2⟩ := hl.2 2 (.inl (0, 400, [(50, δ)])) rfl
    obtain ⟨u3, e3, x3, rfl, -, -, -, t3⟩ := hl.2 3 (.inl (396, 440, [(52, 0)])) rfl
    obtain ⟨u4, e4, x4, rfl, -, -, -, t4⟩ := hl.2 4 (.inl (0, 400, [(51, 1)])) rfl
    have y2 : x2 = top + δ := (t2 (50, δ) List.mem_cons_self).1 (show 50 < 1000000 by decide)
    have y3 : x3 = k + 0 := (t3 (52, 0) List.mem_cons_self).1 (show 52 < 1000000 by decide)
    have y4 : x4 = i + 1 := (t4 (51, 1) List.mem_cons_self).1 (show 51 < 1000000 by decide)
    rw [Int.add_zero] at y3
    subst y2 y3 y4
    exact gm_Wp_mono (fun o n K R M h => sl_Qm h) (hx bc bs L K R M hF hfr hl.1.symm e0 e2 e3 e4)
  · rcases j with _ | _ | _ | _ | _ | _ | j
    · cases hb; exact ⟨_, l0, rfl⟩
    · cases hb
    · cases hb; exact ⟨_, l2, top, rfl, ⟨by omega, by omega⟩, htop.1.1, htop.1.2, fun q hq => by rw [List.mem_singleton.mp hq]; exact ⟨fun _ => by show top = top + 0; omega, fun h => absurd h (by decide)⟩⟩
    · cases hb; exact ⟨_, l3, k, rfl, ⟨by omega, by omega⟩, hk.1, hk.2, fun q hq => by rw [List.mem_singleton.mp hq]; exact ⟨fun _ => by show k = k + 0; omega, fun h => absurd h (by decide)⟩⟩
    · cases hb; exact ⟨_, l4, i, rfl, ⟨by omega, by omega⟩, hii.1, hii.2, fun q hq => by rw [List.mem_singleton.mp hq]; exact ⟨fun _ => by show i = i + 0; omega, fun h => absurd h (by decide)⟩⟩
    · cases hb; exact ⟨_, l5, step, rfl, ⟨by omega, by omega⟩, hs.1.1, hs.1.2, fun _ h => nomatch h⟩
    · rcases j with _ | _ | _ | j <;> cases hb
theorem sl_hold {bc bs : Nat} {σ : Nat → Int} {K0 : gm_K} {R0 : gm_R} {M0 : gm_M} {line : Int} (hF0 : gm_Fx p2_O 245 K0 R0 M0) (hl : 0 ≤ line ∧ line < 12) (hc : line < M0 227 395) : gm_Wp X LX 2 bc bs 295 0 (gm_ent 295 [gm_vr 226, gm_vi line]) [] 245 K0 R0 M0 (ck_Q p2_O σ sl_W 245 K0 R0 M0 sl_o) := by
  have hJ : j_J p2_ty K0 M0 := hF0.2.2.2.2
  obtain ⟨-, -, t7, -, -⟩ := hJ
  obtain ⟨⟨a1, a2, a3⟩, G, g0, gs⟩ := t7 line hl.1 hl.2 hc
  have e1 : (395 : Int) + (3 + 4 * line) = 396 + 4 * line + 2 := by omega
  have e2 : (395 : Int) + (4 + 4 * line) = 396 + 4 * line + 3 := by omega
  dsimp only at a1 a2 a3 g0 gs
  rw [e1] at a1 a2 g0 gs
  rw [e2] at a2 a3 gs
  generalize hk : 396 + 4 * line = k at *
  generalize hfi : M0 227 (k + 2) = first at *
  generalize hla : M0 227 (k + 3) = last at *
  have key : ∀ (m : Nat) (i top : Int) (bc bs : Nat) (L : gm_L) (K : gm_K) (R : gm_R) (M : gm_M), last - i = (m : Int) → first ≤ i → i ≤ last → G i = top → 0 ≤ top → top ≤ i - first → gm_Fx p2_O 245 K R M → ck_fr sl_W 245 K0 R0 M0 245 K R M → L.length = 9 → L[0]? = some (some (gm_vr 226)) → L[2]? = some (some (gm_vi top)) → L[3]? = some (some (gm_vi k)) → L[4]? = some (some (gm_vi i)) → gm_Wp X LX 2 bc bs 295 20 L [] 245 K R M (ck_Q p2_O σ sl_W 245 K0 R0 M0 sl_o) := by
    intro m
    induction m with
    | zero =>
      intro i top bc bs L K R M hm h1 h2 hG h3 h4 hF hfr hL l0 l2 l3 l4
      have hM : ∀ j, M 227 j = M0 227 j := fun j => hfr.2.2.1 227 j (by decide) (fun w hw e => by rw [List.mem_singleton.mp hw] at e; exact absurd e.1 (by decide))
      have w1 : gm_w (k + 3) = k + 3 := gm_w_id (by omega) (by omega)
      refine gm_sz (gm_p_load (pc := 20) (i := .iload 4) (sr := 0) (j := 4) (by decide +kernel) rfl l4 rfl) ?_
      refine gm_sz (gm_p_load (pc := 22) (i := .aload_n 0) (sr := 2) (j := 0) (by decide +kernel) rfl l0 rfl) ?_
      refine gm_sz (gm_p_get (pc := 23) (ix := 13) (ci := 11) (j := 1) (by decide +kernel) (md_mo hF).1 (md_mo hF).2 (by decide +kernel)) ?_
      rw [if_pos (show gm_isr 11 1 = true by decide +kernel), md_rf hF md_r.1.1]
      refine gm_sz (gm_p_load (pc := 26) (i := .iload_n 3) (sr := 0) (j := 3) (by decide +kernel) rfl l3 rfl) ?_
      refine gm_sz (gm_p_const (pc := 27) (i := .iconst 3) (v := gm_vi 3) (by decide +kernel) (by decide +kernel)) ?_
      refine gm_sz (gm_p_bin (pc := 28) (i := .iadd) (f := fun x y => x + y) (by decide +kernel) rfl) ?_
      refine gm_sz (gm_p_iald (pc := 29) (by decide +kernel) (md_kd hF md_o.1.2).1.1 (md_kd hF md_o.1.2).1.2 (by rw [w1, (md_kd hF md_o.1.2).2]; omega)) ?_
      rw [w1]
      rw [hM, hla]
      refine gm_b_ic (cc := .ge) (pc := 30) (off := 229) (by decide +kernel) (by decide) (fun _ => ?_) (fun hp => ?_)
      · refine gm_Wp_wk (Nat.le_refl _) (Nat.zero_le _) (Nat.zero_le _) (ck_go_s (σ0 := σ) (cuts := []) (by decide) ⟨p2_nmu, ck_E0⟩ ck_X0 ck_l0 100 true [] 0 0 259 [some (.inr (.inr (.inl 226))), none, some (.inl (0, 400, [])), none, none, none, none, none, none] [] 245 ([], [], []) σ L [] K R M (fun _ _ => rfl) (fun z hz => nomatch hz) ⟨hF, ⟨by rw [hL]; rfl, fun j b hb => ?_⟩, rfl, ⟨(fun _ h => nomatch h), (fun _ h => nomatch h), (fun _ h => nomatch h)⟩, hfr⟩ sl_g0)
        rcases j with _ | _ | _ | j
        · cases hb; exact ⟨_, l0, rfl⟩
        · cases hb
        · cases hb; exact ⟨_, l2, top, rfl, ⟨by omega, by omega⟩, by show (0 : Int) ≤ top; omega, by show top ≤ (400 : Int); omega, fun _ h => nomatch h⟩
        · rcases j with _ | _ | _ | _ | _ | _ | j <;> cases hb
      · rw [gm_cm_w ⟨by omega, by omega⟩ ⟨by omega, by omega⟩] at hp
        have hp : ¬ last ≤ i := hp
        omega
    | succ m ih =>
      intro i top bc bs L K R M hm h1 h2 hG h3 h4 hF hfr hL l0 l2 l3 l4
      have hM : ∀ j, M 227 j = M0 227 j := fun j => hfr.2.2.1 227 j (by decide) (fun w hw e => by rw [List.mem_singleton.mp hw] at e; exact absurd e.1 (by decide))
      have w1 : gm_w (k + 3) = k + 3 := gm_w_id (by omega) (by omega)
      have w2' : gm_w (444 + 2 * i) = 444 + 2 * i := gm_w_id (by omega) (by omega)
      refine gm_sz (gm_p_load (pc := 20) (i := .iload 4) (sr := 0) (j := 4) (by decide +kernel) rfl l4 rfl) ?_
      refine gm_sz (gm_p_load (pc := 22) (i := .aload_n 0) (sr := 2) (j := 0) (by decide +kernel) rfl l0 rfl) ?_
      refine gm_sz (gm_p_get (pc := 23) (ix := 13) (ci := 11) (j := 1) (by decide +kernel) (md_mo hF).1 (md_mo hF).2 (by decide +kernel)) ?_
      rw [if_pos (show gm_isr 11 1 = true by decide +kernel), md_rf hF md_r.1.1]
      refine gm_sz (gm_p_load (pc := 26) (i := .iload_n 3) (sr := 0) (j := 3) (by decide +kernel) rfl l3 rfl) ?_
      refine gm_sz (gm_p_const (pc := 27) (i := .iconst 3) (v := gm_vi 3) (by decide +kernel) (by decide +kernel)) ?_
      refine gm_sz (gm_p_bin (pc := 28) (i := .iadd) (f := fun x y => x + y) (by decide +kernel) rfl) ?_
      refine gm_sz (gm_p_iald (pc := 29) (by decide +kernel) (md_kd hF md_o.1.2).1.1 (md_kd hF md_o.1.2).1.2 (by rw [w1, (md_kd hF md_o.1.2).2]; omega)) ?_
      rw [w1]
      rw [hM, hla]
      refine gm_b_ic (cc := .ge) (pc := 30) (off := 229) (by decide +kernel) (by decide) (fun hp => ?_) (fun _ => ?_)
      · rw [gm_cm_w ⟨by omega, by omega⟩ ⟨by omega, by omega⟩] at hp
        have hp : last ≤ i := hp
        omega
      refine gm_sz (gm_p_load (pc := 33) (i := .aload_n 0) (sr := 2) (j := 0) (by decide +kernel) rfl l0 rfl) ?_
      refine gm_sz (gm_p_get (pc := 34) (ix := 13) (ci := 11) (j := 1) (by decide +kernel) (md_mo hF).1 (md_mo hF).2 (by decide +kernel)) ?_
      rw [if_pos (show gm_isr 11 1 = true by decide +kernel), md_rf hF md_r.1.1]
      refine gm_sz (gm_p_const (pc := 37) (i := .sipush 444) (v := gm_vi 444) (by decide +kernel) (by decide +kernel)) ?_
      refine gm_sz (gm_p_const (pc := 40) (i := .iconst 2) (v := gm_vi 2) (by decide +kernel) (by decide +kernel)) ?_
      refine gm_sz (gm_p_load (pc := 41) (i := .iload 4) (sr := 0) (j := 4) (by decide +kernel) rfl l4 rfl) ?_
      refine gm_sz (gm_p_bin (pc := 43) (i := .imul) (f := fun x y => x * y) (by decide +kernel) rfl) ?_
      refine gm_sz (gm_p_bin (pc := 44) (i := .iadd) (f := fun x y => x + y) (by decide +kernel) rfl) ?_
      refine gm_sz (gm_p_iald (pc := 45) (by decide +kernel) (md_kd hF md_o.1.2).1.1 (md_kd hF md_o.1.2).1.2 (by rw [w2', (md_kd hF md_o.1.2).2]; omega)) ?_
      rw [w2']
      refine gm_sz (gm_p_stor (pc := 46) (i := .istore 5) (sr := 0) (j := 5) (by decide +kernel) rfl (show 5 + 0 < L.length by omega) rfl) ?_
      have hst := ((gm_tyr_s hF sl_t2).2 (444 + 2 * i) (by omega) (by omega)).2
      have hs1 : (-1 : Int) ≤ M 227 (444 + 2 * i) := hst.1
      have hs2 : M 227 (444 + 2 * i) ≤ (999 : Int) := hst.2
      have hj := gs i h1 (by omega)
      rw [show (395 : Int) + (49 + 2 * i) = 444 + 2 * i by omega, ← hM] at hj
      generalize hstep : M 227 (444 + 2 * i) = step at *
      rw [show gm_lst L 5 (gm_vi step) = L.set 5 (some (gm_vi step)) by
        have e : gm_lc L 5 = L := by
          show (match L[4]? with
            | some (some (.inr (.inl _))) => L.set 4 none
            | _ => L) = L
          rw [l4]
        show (gm_lc L 5).set 5 (some (gm_vi step)) = _
        rw [e]]
      have q0 : (L.set 5 (some (gm_vi step)))[0]? = some (some (gm_vr 226)) := by rw [List.getElem?_set, if_neg (by decide), l0]
      have q2 : (L.set 5 (some (gm_vi step)))[2]? = some (some (gm_vi top)) := by rw [List.getElem?_set, if_neg (by decide), l2]
      have q3 : (L.set 5 (some (gm_vi step)))[3]? = some (some (gm_vi k)) := by rw [List.getElem?_set, if_neg (by decide), l3]
      have q4 : (L.set 5 (some (gm_vi step)))[4]? = some (some (gm_vi i)) := by rw [List.getElem?_set, if_neg (by decide), l4]
      have q5 : (L.set 5 (some (gm_vi step)))[5]? = some (some (gm_vi step)) := by rw [List.getElem?_set, if_pos rfl, if_pos (by omega)]
      have qL : (L.set 5 (some (gm_vi step))).length = 9 := by rw [List.length_set, hL]
      by_cases c1 : step ≤ 10
      · obtain ⟨r1, r2⟩ := hj.1 c1
        refine sl_go (δ := 1) (by decide +kernel) sl_g1 hF hfr qL q0 q2 q3 q4 q5 ⟨⟨by omega, by omega⟩, by omega, by omega⟩ ⟨by omega, by omega⟩ ⟨by omega, by omega⟩ ⟨⟨by omega, by omega⟩, by omega, by omega⟩ (fun bc bs L K R M z1 z2 z3 z4 z5 z6 z7 => ih (i + 1) (top + 1) bc bs L K R M (by omega) (by omega) (by omega) (by omega) (by omega) (by omega) z1 z2 z3 z4 z5 z6 z7)
      · by_cases c2 : step = 14
        · obtain ⟨r1, r2⟩ := hj.2.1 c2
          refine sl_go (δ := 0) (by decide +kernel) sl_g2 hF hfr qL q0 q2 q3 q4 q5 ⟨⟨by omega, by omega⟩, by omega, by omega⟩ ⟨by omega, by omega⟩ ⟨by omega, by omega⟩ ⟨⟨by omega, by omega⟩, by omega, by omega⟩ (fun bc bs L K R M z1 z2 z3 z4 z5 z6 z7 => ih (i + 1) (top + 0) bc bs L K R M (by omega) (by omega) (by omega) (by omega) (by omega) (by omega) z1 z2 z3 z4 z5 z6 z7)
        · obtain ⟨r1, r2⟩ := hj.2.2 (by omega) c2
          by_cases c3 : step ≤ 13
          · refine sl_go (δ := -1) (by decide +kernel) sl_g3 hF hfr qL q0 q2 q3 q4 q5 ⟨⟨by omega, by omega⟩, by omega, by omega⟩ ⟨by omega, by omega⟩ ⟨by omega, by omega⟩ ⟨⟨by omega, by omega⟩, by omega, by omega⟩ (fun bc bs L K R M z1 z2 z3 z4 z5 z6 z7 => ih (i + 1) (top + -1) bc bs L K R M (by omega) (by omega) (by omega) (by omega) (by omega) (by omega) z1 z2 z3 z4 z5 z6 z7)
          · refine sl_go (δ := -1) (by decide +kernel) sl_g4 hF hfr qL q0 q2 q3 q4 q5 ⟨⟨by omega, by omega⟩, by omega, by omega⟩ ⟨by omega, by omega⟩ ⟨by omega, by omega⟩ ⟨⟨by omega, by omega⟩, by omega, by omega⟩ (fun bc bs L K R M z1 z2 z3 z4 z5 z6 z7 => ih (i + 1) (top + -1) bc bs L K R M (by omega) (by omega) (by omega) (by omega) (by omega) (by omega) z1 z2 z3 z4 z5 z6 z7)
  have w1 : gm_w (k + 2) = k + 2 := gm_w_id (by omega) (by omega)
  refine gm_sz (gm_p_const (pc := 0) (i := .iconst 0) (v := gm_vi 0) (by decide +kernel) (by decide +kernel)) ?_
  refine gm_sz (gm_p_stor (pc := 1) (i := .istore_n 2) (sr := 0) (j := 2) (by decide +kernel) rfl (show 2 + 0 < 9 by decide) rfl) ?_
  refine gm_sz (gm_p_const (pc := 2) (i := .sipush 396) (v := gm_vi 396) (by decide +kernel) (by decide +kernel)) ?_
  refine gm_sz (gm_p_const (pc := 5) (i := .iconst 4) (v := gm_vi 4) (by decide +kernel) (by decide +kernel)) ?_
  refine gm_sz (gm_p_load (pc := 6) (i := .iload_n 1) (sr := 0) (j := 1) (by decide +kernel) rfl rfl rfl) ?_
  refine gm_sz (gm_p_bin (pc := 7) (i := .imul) (f := fun x y => x * y) (by decide +kernel) rfl) ?_
  refine gm_sz (gm_p_bin (pc := 8) (i := .iadd) (f := fun x y => x + y) (by decide +kernel) rfl) ?_
  rw [hk]
  refine gm_sz (gm_p_stor (pc := 9) (i := .istore_n 3) (sr := 0) (j := 3) (by decide +kernel) rfl (show 3 + 0 < 9 by decide) rfl) ?_
  refine gm_sz (gm_p_load (pc := 10) (i := .aload_n 0) (sr := 2) (j := 0) (by decide +kernel) rfl rfl rfl) ?_
  refine gm_sz (gm_p_get (pc := 11) (ix := 13) (ci := 11) (j := 1) (by decide +kernel) (md_mo hF0).1 (md_mo hF0).2 (by decide +kernel)) ?_
  rw [if_pos (show gm_isr 11 1 = true by decide +kernel), md_rf hF0 md_r.1.1]
  refine gm_sz (gm_p_load (pc := 14) (i := .iload_n 3) (sr := 0) (j := 3) (by decide +kernel) rfl rfl rfl) ?_
  refine gm_sz (gm_p_const (pc := 15) (i := .iconst 2) (v := gm_vi 2) (by decide +kernel) (by decide +kernel)) ?_
  refine gm_sz (gm_p_bin (pc := 16) (i := .iadd) (f := fun x y => x + y) (by decide +kernel) rfl) ?_
  refine gm_sz (gm_p_iald (pc := 17) (by decide +kernel) (md_kd hF0 md_o.1.2).1.1 (md_kd hF0 md_o.1.2).1.2 (by rw [w1, (md_kd hF0 md_o.1.2).2]; omega)) ?_
  rw [w1]
  rw [hfi]
  refine gm_sz (gm_p_stor (pc := 18) (i := .istore 4) (sr := 0) (j := 4) (by decide +kernel) rfl (show 4 + 0 < 9 by decide) rfl) ?_
  exact key (last - first).toNat first 0 bc bs _ K0 R0 M0 (by omega) (by omega) a2 g0 (by omega) (by omega) hF0 ck_fr_0 rfl rfl rfl rfl rfl
def sl_so : List ck_Oc := [(.inr (some (.inl ck_top)), 245, ([], [], []))]
/-- GlacierMailModel.sumOf -/
def sl_S : ck_Sum := ((3, 0, 0), 245, [.inr (.inr (.inl 226)), .inl (0, 2, [])], ([], [], []), sl_W, sl_so)
theorem sl_S_s : ck_Ok p2_O X LX 294 sl_S := by
  intro d σ vs n K0 R0 M0 hd hn hvs _ hF0 _
  obtain ⟨_, _, rfl, rfl, _, _, rfl, ⟨kind, rfl, kk, -, -, -⟩, rfl⟩ := hvs
  have hn : n = 245 := hn
  subst hn
  refine gm_Wp_wk (d' := 3) (bc' := 0) (bs' := 0) hd (Nat.le_refl _) (Nat.le_refl _) ?_
  have w8 : gm_w 8 = 8 := by decide
  have w395 : gm_w 395 = 395 := by decide
  have ex : ∀ (sum nn : Int) (K : gm_K) (R : gm_R) (M : gm_M), gm_Fx p2_O 245 K R M → ck_fr sl_W 245 K0 R0 M0 245 K R M → gm_Wp X LX 3 0 0 294 78 [some (gm_vr 226), some (gm_vi kind), some (gm_vi sum), some (gm_vi nn)] [] 245 K R M (ck_Q p2_O σ sl_W 245 K0 R0 M0 sl_so) := by
    intro sum nn K R M hF hfr
    refine gm_sz (gm_p_load (pc := 78) (i := .iload_n 2) (sr := 0) (j := 2) (by decide +kernel) rfl rfl rfl) ?_
    refine ck_nv ?_
    exact gm_r_int (pc := 79) (by decide +kernel) (Or.inl (by decide +kernel)) ⟨hF, hfr, _, List.mem_cons_self, ⟨_, rfl, ck_w_ir _, ck_top_s _⟩, rfl, ⟨(fun _ h => nomatch h), (fun _ h => nomatch h), (fun _ h => nomatch h)⟩⟩
  have key : ∀ (m : Nat) (nn sum : Int) (K : gm_K) (R : gm_R) (M : gm_M), 12 - nn = (m : Int) → 0 ≤ nn → gm_Fx p2_O 245 K R M → ck_fr sl_W 245 K0 R0 M0 245 K R M → gm_Wp X LX 3 0 0 294 4 [some (gm_vr 226), some (gm_vi kind), some (gm_vi sum), some (gm_vi nn)] [] 245 K R M (ck_Q p2_O σ sl_W 245 K0 R0 M0 sl_so) := by
    intro m
    induction m with
    | zero =>
      intro nn sum K R M hm h0 hF hfr
      have ht := ((gm_tyr_s hF sl_t).2 395 (Int.le_refl _) (Int.le_refl _)).2
      have ht1 : (0 : Int) ≤ M 227 395 := ht.1
      have ht2 : M 227 395 ≤ (12 : Int) := ht.2
      refine gm_sz (gm_p_load (pc := 4) (i := .aload_n 0) (sr := 2) (j := 0) (by decide +kernel) rfl rfl rfl) ?_
      refine gm_sz (gm_p_get (pc := 5) (ix := 13) (ci := 11) (j := 1) (by decide +kernel) (md_mo hF).1 (md_mo hF).2 (by decide +kernel)) ?_
      rw [if_pos (show gm_isr 11 1 = true by decide +kernel), md_rf hF md_r.1.1]
      refine gm_sz (gm_p_const (pc := 8) (i := .bipush 8) (v := gm_vi 8) (by decide +kernel) (by decide +kernel)) ?_
      refine gm_sz (gm_p_iald (pc := 10) (by decide +kernel) (md_kd hF md_o.1.2).1.1 (md_kd hF md_o.1.2).1.2 (by rw [w8, (md_kd hF md_o.1.2).2]; omega)) ?_
      rw [w8]
      refine gm_sz (gm_p_const (pc := 11) (i := .iconst 1) (v := gm_vi 1) (by decide +kernel) (by decide +kernel)) ?_
      refine gm_b_ic (cc := .ne) (pc := 12) (off := 66) (by decide +kernel) (by decide) (fun _ => ex sum nn K R M hF hfr) (fun _ => ?_)
      refine gm_sz (gm_p_load (pc := 15) (i := .iload_n 3) (sr := 0) (j := 3) (by decide +kernel) rfl rfl rfl) ?_
      refine gm_sz (gm_p_load (pc := 16) (i := .aload_n 0) (sr := 2) (j := 0) (by decide +kernel) rfl rfl rfl) ?_
      refine gm_sz (gm_p_get (pc := 17) (ix := 13) (ci := 11) (j := 1) (by decide +kernel) (md_mo hF).1 (md_mo hF).2 (by decide +kernel)) ?_
      rw [if_pos (show gm_isr 11 1 = true by decide +kernel), md_rf hF md_r.1.1]
      refine gm_sz (gm_p_const (pc := 20) (i := .sipush 395) (v := gm_vi 395) (by decide +kernel) (by decide +kernel)) ?_
      refine gm_sz (gm_p_iald (pc := 23) (by decide +kernel) (md_kd hF md_o.1.2).1.1 (md_kd hF md_o.1.2).1.2 (by rw [w395, (md_kd hF md_o.1.2).2]; omega)) ?_
      rw [w395]
      refine gm_b_ic (cc := .ge) (pc := 24) (off := 54) (by decide +kernel) (by decide) (fun _ => ex sum nn K R M hF hfr) (fun hp => ?_)
      rw [gm_cm_w ⟨by omega, by omega⟩ ⟨by omega, by omega⟩] at hp
      have hp : ¬ M 227 395 ≤ nn := hp
      omega
    | succ m ih =>
      intro nn sum K R M hm h0 hF hfr
      have ht := ((gm_tyr_s hF sl_t).2 395 (Int.le_refl _) (Int.le_refl _)).2
      have ht1 : (0 : Int) ≤ M 227 395 := ht.1
      have ht2 : M 227 395 ≤ (12 : Int) := ht.2
      have wk : gm_w (396 + 4 * nn) = 396 + 4 * nn := gm_w_id (by omega) (by omega)
      have wk1 : gm_w (396 + 4 * nn + 1) = 396 + 4 * nn + 1 := gm_w_id (by omega) (by omega)
      have tail : ∀ (x : Int) (K : gm_K) (R : gm_R) (M : gm_M), gm_Fx p2_O 245 K R M → ck_fr sl_W 245 K0 R0 M0 245 K R M → gm_Wp X LX 3 0 0 294 70 [some (gm_vr 226), some (gm_vi kind), some (gm_vi sum), some (gm_vi nn)] [gm_vi x, gm_vi sum] 245 K R M (ck_Q p2_O σ sl_W 245 K0 R0 M0 sl_so) := by
        intro x K R M hF hfr
        refine gm_sz (gm_p_bin (pc := 70) (i := .iadd) (f := fun x y => x + y) (by decide +kernel) rfl) ?_
        refine gm_sz (gm_p_stor (pc := 71) (i := .istore_n 2) (sr := 0) (j := 2) (by decide +kernel) rfl (show 2 + 0 < 4 by decide) rfl) ?_
        refine gm_sz (gm_p_iinc (pc := 72) (j := 3) (z := 1) (x := nn) (by decide +kernel) rfl) ?_
        refine gm_sz (gm_p_goto (pc := 75) (off := -71) (by decide +kernel) (by decide)) ?_
        exact ih (nn + 1) (sum + x) K R M (by omega) (by omega) hF hfr
      have t69 : ∀ (K : gm_K) (R : gm_R) (M : gm_M), gm_Fx p2_O 245 K R M → ck_fr sl_W 245 K0 R0 M0 245 K R M → gm_Wp X LX 3 0 0 294 69 [some (gm_vr 226), some (gm_vi kind), some (gm_vi sum), some (gm_vi nn)] [gm_vi sum] 245 K R M (ck_Q p2_O σ sl_W 245 K0 R0 M0 sl_so) := by
        intro K R M hF hfr
        refine gm_sz (gm_p_const (pc := 69) (i := .iconst 0) (v := gm_vi 0) (by decide +kernel) (by decide +kernel)) ?_
        exact tail 0 K R M hF hfr
      refine gm_sz (gm_p_load (pc := 4) (i := .aload_n 0) (sr := 2) (j := 0) (by decide +kernel) rfl rfl rfl) ?_
      refine gm_sz (gm_p_get (pc := 5) (ix := 13) (ci := 11) (j := 1) (by decide +kernel) (md_mo hF).1 (md_mo hF).2 (by decide +kernel)) ?_
      rw [if_pos (show gm_isr 11 1 = true by decide +kernel), md_rf hF md_r.1.1]
      refine gm_sz (gm_p_const (pc := 8) (i := .bipush 8) (v := gm_vi 8) (by decide +kernel) (by decide +kernel)) ?_
      refine gm_sz (gm_p_iald (pc := 10) (by decide +kernel) (md_kd hF md_o.1.2).1.1 (md_kd hF md_o.1.2).1.2 (by rw [w8, (md_kd hF md_o.1.2).2]; omega)) ?_
      rw [w8]
      refine gm_sz (gm_p_const (pc := 11) (i := .iconst 1) (v := gm_vi 1) (by decide +kernel) (by decide +kernel)) ?_
      refine gm_b_ic (cc := .ne) (pc := 12) (off := 66) (by decide +kernel) (by decide) (fun _ => ex sum nn K R M hF hfr) (fun _ => ?_)
      refine gm_sz (gm_p_load (pc := 15) (i := .iload_n 3) (sr := 0) (j := 3) (by decide +kernel) rfl rfl rfl) ?_
      refine gm_sz (gm_p_load (pc := 16) (i := .aload_n 0) (sr := 2) (j := 0) (by decide +kernel) rfl rfl rfl) ?_
      refine gm_sz (gm_p_get (pc := 17) (ix := 13) (ci := 11) (j := 1) (by decide +kernel) (md_mo hF).1 (md_mo hF).2 (by decide +kernel)) ?_
      rw [if_pos (show gm_isr 11 1 = true by decide +kernel), md_rf hF md_r.1.1]
      refine gm_sz (gm_p_const (pc := 20) (i := .sipush 395) (v := gm_vi 395) (by decide +kernel) (by decide +kernel)) ?_
      refine gm_sz (gm_p_iald (pc := 23) (by decide +kernel) (md_kd hF md_o.1.2).1.1 (md_kd hF md_o.1.2).1.2 (by rw [w395, (md_kd hF md_o.1.2).2]; omega)) ?_
      rw [w395]
      refine gm_b_ic (cc := .ge) (pc := 24) (off := 54) (by decide +kernel) (by decide) (fun _ => ex sum nn K R M hF hfr) (fun hp => ?_)
      rw [gm_cm_w ⟨by omega, by omega⟩ ⟨by omega, by omega⟩] at hp
      have hp : ¬ M 227 395 ≤ nn := hp
      refine gm_sz (gm_p_load (pc := 27) (i := .iload_n 2) (sr := 0) (j := 2) (by decide +kernel) rfl rfl rfl) ?_
      refine gm_sz (gm_p_load (pc := 28) (i := .aload_n 0) (sr := 2) (j := 0) (by decide +kernel) rfl rfl rfl) ?_
      refine gm_sz (gm_p_get (pc := 29) (ix := 13) (ci := 11) (j := 1) (by decide +kernel) (md_mo hF).1 (md_mo hF).2 (by decide +kernel)) ?_
      rw [if_pos (show gm_isr 11 1 = true by decide +kernel), md_rf hF md_r.1.1]
      refine gm_sz (gm_p_const (pc := 32) (i := .sipush 396) (v := gm_vi 396) (by decide +kernel) (by decide +kernel)) ?_
      refine gm_sz (gm_p_const (pc := 35) (i := .iconst 4) (v := gm_vi 4) (by decide +kernel) (by decide +kernel)) ?_
      refine gm_sz (gm_p_load (pc := 36) (i := .iload_n 3) (sr := 0) (j := 3) (by decide +kernel) rfl rfl rfl) ?_
      refine gm_sz (gm_p_bin (pc := 37) (i := .imul) (f := fun x y => x * y) (by decide +kernel) rfl) ?_
      refine gm_sz (gm_p_bin (pc := 38) (i := .iadd) (f := fun x y => x + y) (by decide +kernel) rfl) ?_
      refine gm_sz (gm_p_iald (pc := 39) (by decide +kernel) (md_kd hF md_o.1.2).1.1 (md_kd hF md_o.1.2).1.2 (by rw [wk, (md_kd hF md_o.1.2).2]; omega)) ?_
      rw [wk]
      refine gm_sz (gm_p_load (pc := 40) (i := .iload_n 1) (sr := 0) (j := 1) (by decide +kernel) rfl rfl rfl) ?_
      refine gm_b_ic (cc := .ne) (pc := 41) (off := 28) (by decide +kernel) (by decide) (fun _ => t69 K R M hF hfr) (fun _ => ?_)
      refine gm_sz (gm_p_load (pc := 44) (i := .aload_n 0) (sr := 2) (j := 0) (by decide +kernel) rfl rfl rfl) ?_
      refine gm_sz (gm_p_load (pc := 45) (i := .iload_n 3) (sr := 0) (j := 3) (by decide +kernel) rfl rfl rfl) ?_
      refine gm_c_virt (k := 226) (ci := 11) (mj := 295) (ix := 327) (pc := 46) (as := [gm_vi nn]) (st := [gm_vi sum]) (d' := 2) (bc' := 0) (bs' := 0) (by decide +kernel) (by decide +kernel) (by decide +kernel) (by decide +kernel) (md_mo hF).1 (md_mo hF).2 (by decide) (by decide +kernel) (show 1 = gm_na 295 by decide +kernel) (fun v hv => by rw [List.mem_singleton.mp hv]; simp [gm_sort]) (show 1 + 1 ≤ gm_ml 295 by decide +kernel) (Nat.le_of_ble_eq_true rfl) (by decide) (Nat.zero_le _) (Nat.zero_le _) ?_
      refine gm_Wp_mono (fun o n K1 R1 M1 h => ?_) (sl_hold (σ := σ) hF ⟨h0, by omega⟩ (by omega))
      obtain ⟨f1, f2, oc, f3, f4, f5, -⟩ := h
      rw [List.mem_singleton.mp f3] at f4 f5
      have f5 : n = 245 := f5
      subst f5
      have f6 := ck_fr_tr hfr f2 (by decide) (by decide)
      rcases o with (_ | v) | x
      · exact absurd f4 id
      · obtain ⟨b, rfl, -, -, -, -⟩ := f4
        show gm_Wp X LX 3 0 0 294 49 [some (gm_vr 226), some (gm_vi kind), some (gm_vi sum), some (gm_vi nn)] [gm_vi b, gm_vi sum] 245 K1 R1 M1 (ck_Q p2_O σ sl_W 245 K0 R0 M0 sl_so)
        refine gm_b_if (cc := .eq) (pc := 49) (off := 20) (by decide +kernel) (by decide) (fun _ => t69 K1 R1 M1 f1 f6) (fun _ => ?_)
        refine gm_sz (gm_p_load (pc := 52) (i := .aload_n 0) (sr := 2) (j := 0) (by decide +kernel) rfl rfl rfl) ?_
        refine gm_sz (gm_p_get (pc := 53) (ix := 13) (ci := 11) (j := 1) (by decide +kernel) (md_mo f1).1 (md_mo f1).2 (by decide +kernel)) ?_
        rw [if_pos (show gm_isr 11 1 = true by decide +kernel), md_rf f1 md_r.1.1]
        refine gm_sz (gm_p_const (pc := 56) (i := .sipush 396) (v := gm_vi 396) (by decide +kernel) (by decide +kernel)) ?_
        refine gm_sz (gm_p_const (pc := 59) (i := .iconst 4) (v := gm_vi 4) (by decide +kernel) (by decide +kernel)) ?_
        refine gm_sz (gm_p_load (pc := 60) (i := .iload_n 3) (sr := 0) (j := 3) (by decide +kernel) rfl rfl rfl) ?_
        refine gm_sz (gm_p_bin (pc := 61) (i := .imul) (f := fun x y => x * y) (by decide +kernel) rfl) ?_
        refine gm_sz (gm_p_bin (pc := 62) (i := .iadd) (f := fun x y => x + y) (by decide +kernel) rfl) ?_
        refine gm_sz (gm_p_const (pc := 63) (i := .iconst 1) (v := gm_vi 1) (by decide +kernel) (by decide +kernel)) ?_
        refine gm_sz (gm_p_bin (pc := 64) (i := .iadd) (f := fun x y => x + y) (by decide +kernel) rfl) ?_
        refine gm_sz (gm_p_iald (pc := 65) (by decide +kernel) (md_kd f1 md_o.1.2).1.1 (md_kd f1 md_o.1.2).1.2 (by rw [wk1, (md_kd f1 md_o.1.2).2]; omega)) ?_
        rw [wk1]
        refine gm_sz (gm_p_goto (pc := 66) (off := 4) (by decide +kernel) (by decide)) ?_
        exact tail _ K1 R1 M1 f1 f6
      · exact absurd f4 id
  refine gm_sz (gm_p_const (pc := 0) (i := .iconst 0) (v := gm_vi 0) (by decide +kernel) (by decide +kernel)) ?_
  refine gm_sz (gm_p_stor (pc := 1) (i := .istore_n 2) (sr := 0) (j := 2) (by decide +kernel) rfl (show 2 + 0 < 4 by decide) rfl) ?_
  refine gm_sz (gm_p_const (pc := 2) (i := .iconst 0) (v := gm_vi 0) (by decide +kernel) (by decide +kernel)) ?_
  refine gm_sz (gm_p_stor (pc := 3) (i := .istore_n 3) (sr := 0) (j := 3) (by decide +kernel) rfl (show 3 + 0 < 4 by decide) rfl) ?_
  exact key 12 0 0 K0 R0 M0 (by decide) (by decide) hF0 ck_fr_0
end SL
end
/-! 48.gy -/
section
/-! YEARS of the class: how many there may be is looked at as a difference, by hand. -/
def gy_C (N : Int) (F : ck_F) : ck_C := ([some (.inr (.inr (.inl 1))), some (.inl (ck_one N)), none, none], F, 0, .inl 1, true)
def gy_F (N : Int) (F : ck_F) : ck_F := (F.1, F.2.1, (3, 6, 6, (0, 299 - N, [(10, 0)])) :: F.2.2)
theorem gy_o : (p2_O.1 1 = some (4, 0) ∧ p2_O.1 3 = some (5, 0)) ∧ p2_O.2.1 1 ((3 : Nat) : Int) = some 3 := by decide +kernel
section GY
variable {X : Int → Int} {LX : Nat}
theorem gy_s {N : Int} {E : List (Nat × List ck_Sum)} {S : ck_Sum} {f mc ms : Nat} (hE : ck_nmu p2_O ∧ ck_OkE p2_O X LX E) (hN : 0 ≤ N ∧ N ≤ 50) (hn : S.2.1 = 245) (hmc : mc ≤ S.1.2.1) (hms : ms ≤ S.1.2.2) (hfi : ck_fi S.2.2.2.1 3 6 6 = some (0, 299, [(10, 0)]))
    (ha : (decide (S.2.2.1.length ≤ gm_ml 161) && ck_go p2_O none [] E 161 S.1.1 S.2.1 S.2.2.2.2.1 S.2.2.2.2.2 [(11, gy_C N S.2.2.2.1)] f false [(11, gy_C N S.2.2.2.1, mc, ms, 245)] S.1.2.1 S.1.2.2 0 (S.2.2.1.map some ++ List.replicate (gm_ml 161 - S.2.2.1.length) none) [] S.2.1 S.2.2.2.1) = true)
    (hb : ck_go p2_O none [] E 161 S.1.1 S.2.1 S.2.2.2.2.1 S.2.2.2.2.2 [] f true [] mc ms 26 (gy_C N S.2.2.2.1).1 [] 245 S.2.2.2.1 = true)
    (hc : ck_go p2_O none [] E 161 S.1.1 S.2.1 S.2.2.2.2.1 S.2.2.2.2.2 [] f true [] mc ms 37 (gy_C N S.2.2.2.1).1 [] 245 (gy_F N S.2.2.2.1) = true) : ck_Ok p2_O X LX 161 S := by
  refine ck_ok_st (cuts := [(11, gy_C N S.2.2.2.1)]) (by simp [ck_cu]) hE ha (fun h hm => ?_)
  rw [List.mem_singleton.mp hm]
  refine ⟨List.mem_singleton.mpr rfl, fun σ K0 R0 M0 v _ bc bs L K R M hb1 hb2 hS _ => ?_⟩
  refine gm_Wp_wk (Nat.le_refl _) hb1 hb2 ?_
  obtain ⟨hF, hl, hs, hf, hfr⟩ := id hS
  obtain ⟨u0, l0, g0⟩ := hl.2 0 (.inr (.inr (.inl 1))) rfl
  cases g0
  obtain ⟨u1, l1, x, rfl, -, e1, e2, -⟩ := hl.2 1 (.inl (ck_one N)) rfl
  have e1 : N ≤ x := e1
  have e2 : x ≤ N := e2
  have e3 : x = N := by omega
  subst e3
  obtain ⟨h6, h7⟩ := (ck_fi_s hf hfi).2 6 (Int.le_refl _) (Int.le_refl _)
  have h71 : (0 : Int) ≤ M 3 6 := h7.1
  have h72 : M 3 6 ≤ (299 : Int) := h7.2.1
  obtain ⟨k1, k2, k3⟩ := hF.1 1 _ gy_o.1.1
  obtain ⟨k4, k5, k6⟩ := hF.1 3 _ gy_o.1.2
  have r3 := (hF.2.1 1 _ _ gy_o.2).2
  refine gm_sz (gm_p_load (pc := 11) (i := .iload_n 1) (sr := 0) (j := 1) (by decide +kernel) rfl l1 rfl) ?_
  refine gm_sz (gm_p_const (pc := 12) (i := .sipush 299) (v := gm_vi 299) (by decide +kernel) (by decide +kernel)) ?_
  refine gm_sz (gm_p_load (pc := 15) (i := .aload_n 0) (sr := 2) (j := 0) (by decide +kernel) rfl l0 rfl) ?_
  refine gm_sz (gm_p_get (pc := 16) (ix := 23) (ci := 0) (j := 3) (by decide +kernel) ⟨k1, k2⟩ (by rw [k3]) (by decide +kernel)) ?_
  rw [if_pos (show gm_isr 0 3 = true by decide +kernel), r3]
  refine gm_sz (gm_p_get (pc := 19) (ix := 269) (ci := 1) (j := 6) (by decide +kernel) ⟨k4, k5⟩ (by rw [k6]) (by decide +kernel)) ?_
  rw [if_neg (show ¬ gm_isr 1 6 = true by decide +kernel)]
  refine gm_sz (gm_p_bin (pc := 22) (i := .isub) (f := fun x y => x - y) (by decide +kernel) rfl) ?_
  have h73 : M 3 ((6 : Nat) : Int) = M 3 6 := rfl
  refine gm_b_ic (cc := .le) (pc := 23) (off := 14) (by decide +kernel) (by decide) (fun hp => ?_) (fun _ => ?_)
  · rw [gm_cm_w ⟨by omega, by omega⟩ ⟨by omega, by omega⟩] at hp
    have hp : x ≤ 299 - M 3 6 := hp
    refine ck_go_s (σ0 := σ) (cuts := []) (by decide) hE ck_X0 ck_l0 f true [] mc ms 37 (gy_C x S.2.2.2.1).1 [] 245 (gy_F x S.2.2.2.1) σ L [] K R M (fun _ _ => rfl) (fun _ h => nomatch h) ⟨hF, hl, rfl, ⟨hf.1, hf.2.1, fun q hq => ?_⟩, hfr⟩ hc
    rcases List.mem_cons.mp hq with rfl | hq
    · refine ⟨by show (3 : Nat) ≤ 245; decide, fun j j1 j2 => ?_⟩
      have j1 : (6 : Int) ≤ j := j1
      have j2 : j ≤ (6 : Int) := j2
      have j3 : j = 6 := by omega
      subst j3
      exact ⟨h6, h71, by show M 3 6 ≤ 299 - x; omega, h7.2.2⟩
    · exact hf.2.2 q hq
  · exact ck_go_s (σ0 := σ) (cuts := []) (by decide) hE ck_X0 ck_l0 f true [] mc ms 26 _ [] 245 _ σ L [] K R M (fun _ _ => rfl) (fun _ h => nomatch h) ⟨hF, hl, rfl, hf, hfr⟩ hb
end GY
end
/-! 70.jg -/
section
/-! THE REFERENCE'S law(): what is laid down of a text, counted. -/
/-- steps from a to b, reckoned, leave h numbers -/
def jD (f : Int → Int) (a b h : Int) : Prop := ∃ G : Int → Int, G a = 0 ∧ G b = h ∧ ∀ i, a ≤ i → i < b → jS (f (49 + 2 * i)) (G i) (G (i + 1))
/-- the first c lines are whole, up to step e -/
def jL (f : Int → Int) (c e : Int) : Prop := ∀ n : Int, 0 ≤ n → n < c → n < 12 → (0 ≤ f (3 + 4 * n) ∧ f (3 + 4 * n) ≤ f (4 + 4 * n) ∧ f (4 + 4 * n) ≤ e) ∧ ∃ G : Int → Int, G (f (3 + 4 * n)) = 0 ∧ ∀ i, f (3 + 4 * n) ≤ i → i < f (4 + 4 * n) → jS (f (49 + 2 * i)) (G i) (G (i + 1))
theorem jD_cg {f g : Int → Int} {a b h : Int} (h1 : ∀ i, a ≤ i → i < b → g (49 + 2 * i) = f (49 + 2 * i)) (hf : jD f a b h) : jD g a b h := by
  obtain ⟨G, g1, g2, g3⟩ := hf
  refine ⟨G, g1, g2, fun i h2 h3 => ?_⟩
  rw [h1 i h2 h3]
  exact g3 i h2 h3
theorem jL_cg {f g : Int → Int} {c e : Int} (h1 : ∀ i, 0 ≤ i → i < e → g (49 + 2 * i) = f (49 + 2 * i)) (h2 : ∀ n : Int, 0 ≤ n → n < c → n < 12 → g (3 + 4 * n) = f (3 + 4 * n) ∧ g (4 + 4 * n) = f (4 + 4 * n)) (hf : jL f c e) : jL g c e := by
  intro n n1 n2 n3
  obtain ⟨e1, e2⟩ := h2 n n1 n2 n3
  obtain ⟨⟨a1, a2, a3⟩, G, g1, g2⟩ := hf n n1 n2 n3
  rw [e1, e2]
  refine ⟨⟨a1, a2, a3⟩, G, g1, fun i i1 i2 => ?_⟩
  rw [h1 i (by omega) (by omega)]
  exact g2 i i1 i2
theorem jL_e {f : Int → Int} {c e e' : Int} (h : e ≤ e') (hf : jL f c e) : jL f c e' := by
  intro n n1 n2 n3
  obtain ⟨⟨a1, a2, a3⟩, G⟩ := hf n n1 n2 n3
  exact ⟨⟨a1, a2, by omega⟩, G⟩
theorem jL_0 {f : Int → Int} {e : Int} : jL f 0 e := fun n n1 n2 _ => by omega
theorem jD_0 {f : Int → Int} {a : Int} : jD f a a 0 := ⟨fun _ => 0, rfl, rfl, fun i h1 h2 => by omega⟩
/-- a step more -/
theorem jD_s {f g : Int → Int} {a b h s h' : Int} (hab : a ≤ b) (hf : jD f a b h) (hs : jS s h h') (h1 : ∀ i, a ≤ i → i < b → g (49 + 2 * i) = f (49 + 2 * i)) (h2 : g (49 + 2 * b) = s) : jD g a (b + 1) h' := by
  obtain ⟨G, g1, g2, g3⟩ := hf
  refine ⟨fun i => if i = b + 1 then h' else G i, ?_, ?_, fun i i1 i2 => ?_⟩
  · show (if a = b + 1 then h' else G a) = 0
    rw [if_neg (by omega)]
    exact g1
  · show (if b + 1 = b + 1 then h' else G (b + 1)) = h'
    rw [if_pos rfl]
  · show jS (g (49 + 2 * i)) (if i = b + 1 then h' else G i) (if i + 1 = b + 1 then h' else G (i + 1))
    rw [if_neg (by omega)]
    by_cases e : i = b
    · rw [if_pos (by omega), e, h2, g2]
      exact hs
    · rw [if_neg (by omega), h1 i i1 (by omega)]
      exact g3 i i1 (by omega)
/-- no more numbers than steps -/
theorem jD_le {f : Int → Int} {a b h : Int} (hab : a ≤ b) (hf : jD f a b h) : h ≤ b - a := by
  obtain ⟨G, g1, g2, g3⟩ := hf
  have key : ∀ (m : Nat) (i : Int), i - a = (m : Int) → i ≤ b → G i ≤ i - a := by
    intro m
    induction m with
    | zero =>
      intro i h1 _
      have : i = a := by omega
      subst this
      omega
    | succ m ih =>
      intro i h1 h2
      have h3 := ih (i - 1) (by omega) (by omega)
      obtain ⟨s1, s2, s3⟩ := g3 (i - 1) (by omega) (by omega)
      rw [show i - 1 + 1 = i by omega] at s1 s2 s3
      generalize hk : f (49 + 2 * (i - 1)) = k at *
      by_cases c1 : k ≤ 10
      · have := s1 c1; omega
      · by_cases c2 : k = 14
        · have := s2 c2; omega
        · have := s3 (by omega) c2; omega
  rw [← g2]
  exact key (b - a).toNat b (by omega) (by omega)
/-- lines and steps: a text -/
theorem jT_of {f : Int → Int} {c e : Int} (he : e ≤ 400) (h0 : f 0 ≤ c) (hf : jL f c e) : jT f := by
  intro n n1 n2 n3
  obtain ⟨⟨a1, a2, a3⟩, G⟩ := hf n n1 (by omega) n2
  exact ⟨⟨a1, a2, by omega⟩, G⟩
/-- the line that was begun at a is whole -/
theorem jL_s {f g : Int → Int} {c a b h : Int} (hc : 0 ≤ c) (ha : 0 ≤ a) (hab : a ≤ b) (hb : b ≤ 400) (hf : jL f c a) (hd : jD f a b h) (h3 : f (3 + 4 * c) = a) (h4 : g (4 + 4 * c) = b) (hg : ∀ j, ¬ j = 4 + 4 * c → g j = f j) (h12 : c < 12) : jL g (c + 1) b := by
  intro n n1 n2 n3
  have hst : ∀ i : Int, 0 ≤ i → g (49 + 2 * i) = f (49 + 2 * i) := fun i hi => hg _ (by omega)
  by_cases e : n = c
  · subst e
    rw [h4, hg _ (by omega), h3]
    obtain ⟨G, g1, g2, g3⟩ := hd
    refine ⟨⟨ha, hab, by omega⟩, G, g1, fun i i1 i2 => ?_⟩
    rw [hst i (by omega)]
    exact g3 i i1 i2
  · obtain ⟨⟨a1, a2, a3⟩, G, g1, g2⟩ := hf n n1 (by omega) n3
    rw [hg _ (by omega), hg _ (by omega)]
    refine ⟨⟨a1, a2, by omega⟩, G, g1, fun i i1 i2 => ?_⟩
    rw [hst i (by omega)]
    exact g2 i i1 i2
def jX (M : gm_M) : Prop := ((M 0 4 = M 226 9 - M 226 11 ∧ M 0 5 = M 0 3 + M 0 4 ∧ M 0 3 = M 226 11 - M 226 15) ∧ (0 ≤ M 0 1 ∧ M 0 1 ≤ M 226 15 ∧ M 226 15 ≤ 400) ∧ (M 0 6 = 1 → (0 ≤ M 0 2 ∧ M 0 2 < 12) ∧ M 227 (1244 + (3 + 4 * M 0 2)) = M 0 1)) ∧ jD (fun j => M 227 (1244 + j)) (M 0 1) (M 226 15) (M 0 0) ∧ jL (fun j => M 227 (1244 + j)) (M 0 2) (M 0 1)
def jG (t : List (Int × Int × Int × Int)) (K : gm_K) (M : gm_M) : Prop := j_J t K M ∧ jX M
def jg_e (k : Nat) : List (Int × Int) := if k = 0 then [(0, 6)] else if k = 226 then [(9, 9), (11, 11), (15, 15)] else if k = 227 then [(1247, 1248), (1251, 1252), (1255, 1256), (1259, 1260), (1263, 1264), (1267, 1268), (1271, 1272), (1275, 1276), (1279, 1280), (1283, 1284), (1287, 1288), (1291, 1292), (1293, 2092)] else []
def jg_fp (k : Nat) : List (Int × Int) := j_fp k ++ jg_e k
theorem jg_l : (List.range 12).all (fun (n : Nat) => decide ((1247 + 4 * (n : Int), 1248 + 4 * (n : Int)) ∈ jg_e 227)) = true := by decide +kernel
theorem jX_cg {M M' : gm_M} (h : ∀ k r, r ∈ jg_e k → ∀ j, r.1 ≤ j → j ≤ r.2 → M' k j = M k j) (hX : jX M) : jX M' := by
  have h0 : ∀ j, 0 ≤ j → j ≤ 6 → M' 0 j = M 0 j := fun j h1 h2 => h 0 (0, 6) (by decide) j h1 h2
  have h9 : M' 226 9 = M 226 9 := h 226 (9, 9) (by decide) 9 (by decide) (by decide)
  have h11 : M' 226 11 = M 226 11 := h 226 (11, 11) (by decide) 11 (by decide) (by decide)
  have h15 : M' 226 15 = M 226 15 := h 226 (15, 15) (by decide) 15 (by decide) (by decide)
  have hs : ∀ j, 49 ≤ j → j ≤ 848 → M' 227 (1244 + j) = M 227 (1244 + j) := fun j h1 h2 => h 227 (1293, 2092) (by decide +kernel) _ (by dsimp only; omega) (by dsimp only; omega)
  have hl : ∀ n : Int, 0 ≤ n → n < 12 → M' 227 (1244 + (3 + 4 * n)) = M 227 (1244 + (3 + 4 * n)) ∧ M' 227 (1244 + (4 + 4 * n)) = M 227 (1244 + (4 + 4 * n)) := by
    intro n n1 n2
    obtain ⟨m, rfl⟩ : ∃ m : Nat, n = (m : Int) := ⟨n.toNat, by omega⟩
    have hm := of_decide_eq_true (List.all_eq_true.mp jg_l m (List.mem_range.mpr (by omega)))
    exact ⟨h 227 _ hm _ (by dsimp only; omega) (by dsimp only; omega), h 227 _ hm _ (by dsimp only; omega) (by dsimp only; omega)⟩
  obtain ⟨⟨⟨a1, a2, a3⟩, ⟨b1, b2, b3⟩, c1⟩, d1, e1⟩ := hX
  unfold jX
  rw [h0 0 (by decide) (by decide), h0 1 (by decide) (by decide), h0 2 (by decide) (by decide), h0 3 (by decide) (by decide), h0 4 (by decide) (by decide), h0 5 (by decide) (by decide), h0 6 (by decide) (by decide), h9, h11, h15]
  refine ⟨⟨⟨a1, a2, a3⟩, ⟨b1, b2, b3⟩, fun h6 => ?_⟩, jD_cg (fun i i1 i2 => hs _ (by omega) (by omega)) d1, jL_cg (fun i i1 i2 => hs _ (by omega) (by omega)) (fun n n1 _ n3 => hl n n1 n3) e1⟩
  obtain ⟨c2, c3⟩ := c1 h6
  exact ⟨c2, by rw [(hl _ c2.1 c2.2).1]; exact c3⟩
theorem jg_h {t : List (Int × Int × Int × Int)} : gm_hP jg_fp (jG t) (some (226, 9, 11)) := by
  refine ⟨fun K K' M M' hK h hJ => ⟨j_h K K' M M' (fun k r hr => hK k r (List.mem_append_left _ hr)) (fun k r hr => h k r (List.mem_append_left _ hr)) hJ.1, jX_cg (fun k r hr => h k r (List.mem_append_right _ hr)) hJ.2⟩, fun g hg => ?_⟩
  cases hg
  refine ⟨fun K M hJ => ?_, ⟨by decide, by decide⟩, fun K M M' hJ h e4 e5 e3 => ?_⟩
  · obtain ⟨-, ⟨⟨a1, a2, a3⟩, ⟨b1, b2, b3⟩, -⟩, -⟩ := hJ
    exact ⟨a1, a2, by show M 0 3 ≤ M 226 11; omega⟩
  · have hM : ∀ c, ¬ c = 226 → ¬ c = 0 → M' c = M c := fun c c1 c2 => funext fun j => h c j (fun e => c1 e.1) (fun e => c2 e.1)
    have h0 : ∀ j, ¬ (j = 3 ∨ j = 4 ∨ j = 5) → M' 0 j = M 0 j := fun j hj => h 0 j (fun e => absurd e.1 (by decide)) (fun e => hj e.2)
    have h15 : M' 226 15 = M 226 15 := h 226 15 (fun e => absurd e.2 (by decide)) (fun e => absurd e.1 (by decide))
    obtain ⟨hJ, ⟨⟨a1, a2, a3⟩, ⟨b1, b2, b3⟩, c1⟩, d1, e1⟩ := hJ
    have e4 : M' 0 4 = M' 226 9 - M' 226 11 := e4
    have e3 : M' 0 3 - M' 226 11 = M 0 3 - M 226 11 := e3
    refine ⟨?_, ?_⟩
    · unfold j_J at hJ ⊢
      rw [hM 227 (by decide) (by decide), hM 228 (by decide) (by decide), hM 229 (by decide) (by decide), hM 230 (by decide) (by decide)]
      exact hJ
    · unfold jX
      rw [h0 0 (by decide), h0 1 (by decide), h0 2 (by decide), h0 6 (by decide), h15, hM 227 (by decide) (by decide)]
      exact ⟨⟨⟨e4, e5, by omega⟩, ⟨b1, b2, b3⟩, c1⟩, d1, e1⟩
def pg_nm : List (Nat × Nat × Int) := p2_nm ++ [(30, 0, 0), (31, 0, 3), (32, 0, 4), (33, 0, 5)]
abbrev pg_O : gm_Or := ck_OG p2_T jg_fp (jG p2_ty) pg_nm (some (226, 9, 11)) jg_h
theorem pg_nmk : pg_nm.all (fun q => decide (pg_nm.find? (fun p => p.1 == q.1) = some q)) = true := by decide +kernel
theorem pg_nmu : ck_nmu pg_O := fun q hq => of_decide_eq_true (List.all_eq_true.mp pg_nmk q hq)
theorem pg_p2 {n : Nat} {K : gm_K} {R : gm_R} {M : gm_M} (h : gm_Fx pg_O n K R M) : gm_Fx p2_O n K R M := ⟨h.1, h.2.1, h.2.2.1, fun k r hr => h.2.2.2.1 k r (List.mem_append_left _ hr), h.2.2.2.2.1⟩
theorem p2_pg {n : Nat} {K : gm_K} {R : gm_R} {M : gm_M} (h : gm_Fx p2_O n K R M) (hX : jX M) : gm_Fx pg_O n K R M := by
  refine ⟨h.1, h.2.1, h.2.2.1, fun k r hr => ?_, h.2.2.2.2, hX⟩
  rcases List.mem_append.mp hr with hr | hr
  · exact h.2.2.2.1 k r hr
  · have h1 := (md_mo h).1.2
    have h2 := (md_kd h md_o.1.2).1.1.2
    unfold jg_e at hr
    split at hr
    · omega
    · split at hr
      · omega
      · split at hr
        · omega
        · cases hr
end
/-! 71.em -/
section
/-! THE REFERENCE'S law(): steps that are laid down, lines that begin and end, by hand. -/
theorem gm_Ft_W {O : gm_Or} {n : Nat} {M : gm_M} {k : Nat} {j v a b lo hi : Int} (hF : gm_Ft O n M) (h : gm_tyv O k lo hi a b = true) (h1 : lo ≤ j) (h2 : j ≤ hi) (h3 : a ≤ v) (h4 : v ≤ b) : gm_Ft O n (gm_uM M k j v) := by
  intro c r hr
  obtain ⟨g1, g2⟩ := hF c r hr
  refine ⟨g1, fun i h5 h6 => ?_⟩
  unfold gm_uM
  split
  · rename_i e
    obtain ⟨rfl, rfl⟩ := e
    have h7 := List.all_eq_true.mp (gm_tyv_def.symm.trans h) r hr
    simp only [Bool.or_eq_true, Bool.and_eq_true, decide_eq_true_eq] at h7
    rcases h7 with h7 | h7 | ⟨h7, h8, h9, h10⟩
    · omega
    · omega
    · exact ⟨⟨by omega, by omega⟩, by omega, by omega⟩
  · exact g2 i h5 h6
theorem ck_gf_cws {σ : Nat → Int} {F : ck_F} {n : Nat} {K : gm_K} {R : gm_R} {M M' : gm_M} {ws : List (Nat × Int × Int)} (h : ck_gf σ F n K R M) (hM : ∀ c j, (∀ w ∈ ws, ¬ (w.1 = c ∧ w.2.1 ≤ j ∧ j ≤ w.2.2)) → M' c j = M c j) : ∀ q ∈ ck_cws ws F.2.2, q.1 ≤ n ∧ ∀ j, q.2.1 ≤ j → j ≤ q.2.2.1 → gm_ir (M' q.1 j) ∧ ck_gi σ q.2.2.2 (M' q.1 j) := by
  intro q hq
  obtain ⟨p, hp, e1, e2, e3⟩ := ck_cws_s (ws := ws) (l := F.2.2) hq
  have h3 := h.2.2 p hp
  refine ⟨by rw [e1]; exact h3.1, fun j h4 h5 => ?_⟩
  obtain ⟨h6, h7⟩ := e3 j h4 h5
  rw [hM q.1 j (fun w hw => by rw [e1]; exact h7 w hw), e1, e2]
  exact h3.2 j h6.1 h6.2
theorem ck_f1 {σ : Nat → Int} {n : Nat} {M : gm_M} {k : Nat} {j : Int} {a : ck_I} (hk : k ≤ n) (hr : gm_ir (M k j)) (hv : ck_gi σ a (M k j)) : ((k, j, j, a) : Nat × Int × Int × ck_I).1 ≤ n ∧ ∀ i, ((k, j, j, a) : Nat × Int × Int × ck_I).2.1 ≤ i → i ≤ ((k, j, j, a) : Nat × Int × Int × ck_I).2.2.1 → gm_ir (M ((k, j, j, a) : Nat × Int × Int × ck_I).1 i) ∧ ck_gi σ ((k, j, j, a) : Nat × Int × Int × ck_I).2.2.2 (M ((k, j, j, a) : Nat × Int × Int × ck_I).1 i) := by
  refine ⟨hk, fun i h1 h2 => ?_⟩
  have h1 : j ≤ i := h1
  have h2 : i ≤ j := h2
  have h3 : i = j := by omega
  subst h3
  exact ⟨hr, hv⟩
theorem ck_gt1 {σ : Nat → Int} {s : Nat} {z x : Int} (hs : s < 1000000) (h : x = σ s + z) : ck_gt σ [(s, z)] x := fun q hq => by
  rw [List.mem_singleton.mp hq]
  exact ⟨fun _ => h, fun h => absurd hs (Nat.not_lt.mpr h)⟩
theorem jfp_b {k : Nat} {r : Int × Int} (h : r ∈ j_fp k) : 227 ≤ k ∧ (k = 227 → r.2 ≤ 1243) := by
  by_cases e : k = 227
  · subst e
    exact ⟨by decide, fun _ => of_decide_eq_true (List.all_eq_true.mp (show (j_fp 227).all (fun r => decide (r.2 ≤ 1243)) = true by decide +kernel) r h)⟩
  · refine ⟨?_, fun e2 => absurd e2 e⟩
    unfold j_fp at h
    split at h
    · omega
    · split at h
      · omega
      · split at h
        · omega
        · split at h
          · omega
          · cases h
theorem j_J_w {t : List (Int × Int × Int × Int)} {K : gm_K} {M M' : gm_M} (h : ∀ k j, 227 ≤ k → (k = 227 → j ≤ 1243) → M' k j = M k j) (hJ : j_J t K M) : j_J t K M' := j_h K K M M' (fun _ _ _ => rfl) (fun k r hr j _ j2 => h k j (jfp_b hr).1 (fun e => by have := (jfp_b hr).2 e; omega)) hJ
theorem pg_t0 {j a b : Int} : gm_tyv pg_O 0 j j a b = true := by
  rw [gm_tyv_def]
  rw [show pg_O.2.2.ty 0 = [] by decide +kernel]
  rfl
theorem pg_ts : gm_tyv pg_O 227 1293 2092 (-1) 999 = true := by decide +kernel
theorem pg_t15 : gm_tyv pg_O 226 15 15 0 400 = true := by decide +kernel
theorem pg_p9 : gm_tyr pg_O 226 9 9 = some (0, 400) := by decide +kernel
theorem pg_p11 : gm_tyr pg_O 226 11 11 = some (0, 400) := by decide +kernel
theorem pg_tl : (List.range 12).all (fun (n : Nat) => gm_tyv pg_O 227 (1247 + 4 * (n : Int)) (1247 + 4 * (n : Int)) 0 400 && gm_tyv pg_O 227 (1248 + 4 * (n : Int)) (1248 + 4 * (n : Int)) 0 400) = true := by decide +kernel
section EM
variable {X : Int → Int} {LX : Nat}
def em_M (M : gm_M) (st s nn h : Int) : gm_M := gm_uM (gm_uM (gm_uM (gm_uM (gm_uM (gm_uM M 227 (1293 + 2 * st) s) 227 (1293 + 2 * st + 1) nn) 226 15 (st + 1)) 0 0 h) 0 3 (M 0 3 - 1)) 0 5 (M 0 5 - 1)
def em_W : List (Nat × Int × Int) × List (Nat × Int) := ([(0, 0, 0), (0, 3, 3), (0, 5, 5), (226, 15, 15), (227, 1293, 2092)], [])
def em_S (lo hi h0 dh h1 h2 : Int) : ck_Sum := ((1, 0, 0), 245, [.inr (.inr (.inl 226)), .inl (lo, hi, []), .inl (-1, 999, [])], ([], [], [(0, 0, 0, (h0, 400, [(30, 0)])), (0, 3, 3, (-400, 400, [(31, 0)])), (0, 5, 5, (1, 400, [(33, 0)]))]), em_W, [(.inr none, 245, ([], [], [(0, 0, 0, (h1, h2, [(30, dh)])), (0, 3, 3, (-400, 399, [(31, -1)])), (0, 5, 5, (0, 399, [(33, -1)])), (226, 15, 15, (1, 400, [(2, 1)]))]))])
theorem em_s {lo hi h0 dh h1 h2 : Int} (hlo : -1 ≤ lo ∧ hi ≤ 999) (hk : ∀ s h, lo ≤ s → s ≤ hi → h0 ≤ h → jS s h (h + dh)) (hh1 : (0 ≤ h0 ∧ 0 ≤ h1) ∧ h1 ≤ h0 + dh) (hh2 : 400 ≤ h2 ∨ 400 + dh ≤ h2) : ck_Ok pg_O X LX 279 (em_S lo hi h0 dh h1 h2) := by
  intro d σ vs n K R M hd hn hvs hnm hF hf
  obtain ⟨_, _, rfl, rfl, _, _, rfl, ⟨s, rfl, -, u1, u2, -⟩, _, _, rfl, ⟨nn, rfl, -, u3, u4, -⟩, rfl⟩ := hvs
  have u1 : lo ≤ s := u1
  have u2 : s ≤ hi := u2
  have u3 : (-1 : Int) ≤ nn := u3
  have u4 : nn ≤ (999 : Int) := u4
  have hn : n = 245 := hn
  subst hn
  have hP := pg_p2 hF
  have f0 := (hf.2.2 (0, 0, 0, (h0, 400, [(30, 0)])) List.mem_cons_self).2 0 (Int.le_refl _) (Int.le_refl _)
  have f01 : h0 ≤ M 0 0 := f0.2.1
  have f02 : M 0 0 ≤ (400 : Int) := f0.2.2.1
  have f3 := (hf.2.2 (0, 3, 3, (-400, 400, [(31, 0)])) (List.mem_cons_of_mem _ List.mem_cons_self)).2 3 (Int.le_refl _) (Int.le_refl _)
  have f31 : (-400 : Int) ≤ M 0 3 := f3.2.1
  have f32 : M 0 3 ≤ (400 : Int) := f3.2.2.1
  have f5 := (hf.2.2 (0, 5, 5, (1, 400, [(33, 0)])) (List.mem_cons_of_mem _ (List.mem_cons_of_mem _ List.mem_cons_self))).2 5 (Int.le_refl _) (Int.le_refl _)
  have f51 : (1 : Int) ≤ M 0 5 := f5.2.1
  have f52 : M 0 5 ≤ (400 : Int) := f5.2.2.1
  have p9 := ((gm_tyr_s hF pg_p9).2 9 (Int.le_refl _) (Int.le_refl _)).2
  have p92 : M 226 9 ≤ (400 : Int) := p9.2
  have p11 := ((gm_tyr_s hF pg_p11).2 11 (Int.le_refl _) (Int.le_refl _)).2
  have p111 : (0 : Int) ≤ M 226 11 := p11.1
  have s30 : σ 30 = M 0 0 := hnm (30, 0, 0) (by decide +kernel)
  have s31 : σ 31 = M 0 3 := hnm (31, 0, 3) (by decide +kernel)
  have s33 : σ 33 = M 0 5 := hnm (33, 0, 5) (by decide +kernel)
  have s2 : σ 2 = M 226 15 := hnm (2, 226, 15) (by decide +kernel)
  obtain ⟨hJ, ⟨⟨a1, a2, a3⟩, ⟨b1, b2, b3⟩, c1⟩, d1, e1⟩ := hF.2.2.2.2
  generalize hst : M 226 15 = st at *
  have h399 : st ≤ 399 := by omega
  have w1 : gm_w (1293 + 2 * st) = 1293 + 2 * st := w2 (by omega)
  have w2q : gm_w (1293 + 2 * st + 1) = 1293 + 2 * st + 1 := w2 (by omega)
  refine gm_sz (gm_p_load (pc := 0) (i := .aload_n 0) (sr := 2) (j := 0) (by decide +kernel) rfl rfl rfl) ?_
  refine gm_sz (gm_p_get (pc := 1) (ix := 13) (ci := 11) (j := 1) (by decide +kernel) (md_mo hP).1 (md_mo hP).2 (by decide +kernel)) ?_
  rw [if_pos (show gm_isr 11 1 = true by decide +kernel), md_rf hP md_r.1.1]
  refine gm_sz (gm_p_const (pc := 4) (i := .sipush 1293) (v := gm_vi 1293) (by decide +kernel) (by decide +kernel)) ?_
  refine gm_sz (gm_p_const (pc := 7) (i := .iconst 2) (v := gm_vi 2) (by decide +kernel) (by decide +kernel)) ?_
  refine gm_sz (gm_p_load (pc := 8) (i := .aload_n 0) (sr := 2) (j := 0) (by decide +kernel) rfl rfl rfl) ?_
  refine gm_sz (gm_p_get (pc := 9) (ix := 224) (ci := 11) (j := 15) (by decide +kernel) (md_mo hP).1 (md_mo hP).2 (by decide +kernel)) ?_
  rw [if_neg (show ¬ gm_isr 11 15 = true by decide +kernel), show M 226 ((15 : Nat) : Int) = st from hst]
  refine gm_sz (gm_p_bin (pc := 12) (i := .imul) (f := fun x y => x * y) (by decide +kernel) rfl) ?_
  refine gm_sz (gm_p_bin (pc := 13) (i := .iadd) (f := fun x y => x + y) (by decide +kernel) rfl) ?_
  refine gm_sz (gm_p_load (pc := 14) (i := .iload_n 1) (sr := 0) (j := 1) (by decide +kernel) rfl rfl rfl) ?_
  refine gm_sz (gm_p_iast (pc := 15) (by decide +kernel) (md_kd hP md_o.1.2).1.1 (md_kd hP md_o.1.2).1.2 (by rw [w1, (md_kd hP md_o.1.2).2]; omega)) ?_
  rw [w1]
  refine gm_sz (gm_p_load (pc := 16) (i := .aload_n 0) (sr := 2) (j := 0) (by decide +kernel) rfl rfl rfl) ?_
  refine gm_sz (gm_p_get (pc := 17) (ix := 13) (ci := 11) (j := 1) (by decide +kernel) (md_mo hP).1 (md_mo hP).2 (by decide +kernel)) ?_
  rw [if_pos (show gm_isr 11 1 = true by decide +kernel), md_rf hP md_r.1.1]
  refine gm_sz (gm_p_const (pc := 20) (i := .sipush 1293) (v := gm_vi 1293) (by decide +kernel) (by decide +kernel)) ?_
  refine gm_sz (gm_p_const (pc := 23) (i := .iconst 2) (v := gm_vi 2) (by decide +kernel) (by decide +kernel)) ?_
  refine gm_sz (gm_p_load (pc := 24) (i := .aload_n 0) (sr := 2) (j := 0) (by decide +kernel) rfl rfl rfl) ?_
  refine gm_sz (gm_p_get (pc := 25) (ix := 224) (ci := 11) (j := 15) (by decide +kernel) (md_mo hP).1 (md_mo hP).2 (by decide +kernel)) ?_
  rw [if_neg (show ¬ gm_isr 11 15 = true by decide +kernel), show gm_uM M 227 (1293 + 2 * st) s 226 ((15 : Nat) : Int) = st from (uM_ne (by omega)).trans hst]
  refine gm_sz (gm_p_bin (pc := 28) (i := .imul) (f := fun x y => x * y) (by decide +kernel) rfl) ?_
  refine gm_sz (gm_p_bin (pc := 29) (i := .iadd) (f := fun x y => x + y) (by decide +kernel) rfl) ?_
  refine gm_sz (gm_p_const (pc := 30) (i := .iconst 1) (v := gm_vi 1) (by decide +kernel) (by decide +kernel)) ?_
  refine gm_sz (gm_p_bin (pc := 31) (i := .iadd) (f := fun x y => x + y) (by decide +kernel) rfl) ?_
  refine gm_sz (gm_p_load (pc := 32) (i := .iload_n 2) (sr := 0) (j := 2) (by decide +kernel) rfl rfl rfl) ?_
  refine gm_sz (gm_p_iast (pc := 33) (by decide +kernel) (md_kd hP md_o.1.2).1.1 (md_kd hP md_o.1.2).1.2 (by rw [w2q, (md_kd hP md_o.1.2).2]; omega)) ?_
  rw [w2q]
  refine gm_sz (gm_p_load (pc := 34) (i := .aload_n 0) (sr := 2) (j := 0) (by decide +kernel) rfl rfl rfl) ?_
  refine gm_sz (gm_p_dup (pc := 35) (by decide +kernel) (by simp [gm_sort])) ?_
  refine gm_sz (gm_p_get (pc := 36) (ix := 224) (ci := 11) (j := 15) (by decide +kernel) (md_mo hP).1 (md_mo hP).2 (by decide +kernel)) ?_
  rw [if_neg (show ¬ gm_isr 11 15 = true by decide +kernel), show gm_uM (gm_uM M 227 (1293 + 2 * st) s) 227 (1293 + 2 * st + 1) nn 226 ((15 : Nat) : Int) = st from (uM_ne (by omega)).trans ((uM_ne (by omega)).trans hst)]
  refine gm_sz (gm_p_const (pc := 39) (i := .iconst 1) (v := gm_vi 1) (by decide +kernel) (by decide +kernel)) ?_
  refine gm_sz (gm_p_bin (pc := 40) (i := .iadd) (f := fun x y => x + y) (by decide +kernel) rfl) ?_
  refine gm_sz (gm_p_puti (pc := 41) (ix := 224) (ci := 11) (j := 15) (by decide +kernel) (md_mo hP).1 (md_mo hP).2 (by decide +kernel) (by decide +kernel) (Or.inl (by decide +kernel))) ?_
  have hD := jD_s (f := fun j => M 227 (1244 + j)) (g := fun j => em_M M st s nn (M 0 0 + dh) 227 (1244 + j)) (s := s) (h' := M 0 0 + dh) b2 d1 (hk s (M 0 0) u1 u2 f01) (fun i i1 i2 => by
    show em_M M st s nn (M 0 0 + dh) 227 (1244 + (49 + 2 * i)) = M 227 (1244 + (49 + 2 * i))
    unfold em_M
    rw [uM_ne (by omega), uM_ne (by omega), uM_ne (by omega), uM_ne (by omega), uM_ne (by omega), uM_ne (by omega)]) (by
    show em_M M st s nn (M 0 0 + dh) 227 (1244 + (49 + 2 * st)) = s
    unfold em_M
    rw [uM_ne (by omega), uM_ne (by omega), uM_ne (by omega), uM_ne (by omega), uM_ne (by omega)]
    unfold gm_uM
    rw [if_pos ⟨rfl, by omega⟩])
  have hle := jD_le (by omega) hD
  refine gm_Wp_g (M' := em_M M st s nn (M 0 0 + dh)) (fun c i hc => ?_) ?_
  · unfold em_M
    rw [uM_ne (by omega), uM_ne (by omega), uM_ne (by omega)]
    rfl
  have v00 : em_M M st s nn (M 0 0 + dh) 0 0 = M 0 0 + dh := by unfold em_M; rw [uM_ne (by omega), uM_ne (by omega), uM_at]
  have v03 : em_M M st s nn (M 0 0 + dh) 0 3 = M 0 3 - 1 := by unfold em_M; rw [uM_ne (by omega), uM_at]
  have v05 : em_M M st s nn (M 0 0 + dh) 0 5 = M 0 5 - 1 := by unfold em_M; rw [uM_at]
  have v15 : em_M M st s nn (M 0 0 + dh) 226 15 = st + 1 := by unfold em_M; rw [uM_ne (by omega), uM_ne (by omega), uM_ne (by omega), uM_at]
  have vx : ∀ (c : Nat) (j : Int), ¬ (c = 0 ∧ (j = 0 ∨ j = 3 ∨ j = 5)) → ¬ (c = 226 ∧ j = 15) → ¬ (c = 227 ∧ 1293 ≤ j) → em_M M st s nn (M 0 0 + dh) c j = M c j := fun c j x1 x2 x3 => by
    unfold em_M
    rw [uM_ne (by omega), uM_ne (by omega), uM_ne (by omega), uM_ne (by omega), uM_ne (by omega), uM_ne (by omega)]
  refine gm_r_void (pc := 44) (by decide +kernel) (by decide +kernel) ⟨⟨hF.1, hF.2.1, ?_, hF.2.2.2.1, ?_⟩, ?_, _, List.mem_cons_self, trivial, rfl, ⟨(fun _ h => nomatch h), (fun _ h => nomatch h), fun q hq => ?_⟩⟩
  · exact gm_Ft_M (gm_Ft_M (gm_Ft_M (gm_Ft_M (gm_Ft_W (gm_Ft_W hF.2.2.1 pg_ts (by omega) (by omega) (by omega) (by omega)) pg_ts (by omega) (by omega) u3 u4) pg_t15 (by omega) (by omega)) pg_t0 (Int.le_refl _) (Int.le_refl _)) pg_t0 (Int.le_refl _) (Int.le_refl _)) pg_t0 (Int.le_refl _) (Int.le_refl _)
  · refine ⟨j_J_w (fun k j k1 k2 => vx k j (by omega) (by omega) (fun x => by have := k2 x.1; omega)) hJ, ?_⟩
    unfold jX
    rw [v00, v03, v05, v15, vx 0 1 (by omega) (by omega) (by omega), vx 0 2 (by omega) (by omega) (by omega), vx 0 4 (by omega) (by omega) (by omega), vx 0 6 (by omega) (by omega) (by omega), vx 226 9 (by omega) (by omega) (by omega), vx 226 11 (by omega) (by omega) (by omega)]
    refine ⟨⟨⟨a1, by omega, by omega⟩, ⟨b1, by omega, by omega⟩, fun h6 => ?_⟩, hD, jL_cg (fun i i1 i2 => ?_) (fun n n1 _ n3 => ⟨vx _ _ (by omega) (by omega) (by omega), vx _ _ (by omega) (by omega) (by omega)⟩) e1⟩
    · obtain ⟨c2, c3⟩ := c1 h6
      exact ⟨c2, by rw [vx _ _ (by omega) (by omega) (by omega)]; exact c3⟩
    · show em_M M st s nn (M 0 0 + dh) 227 (1244 + (49 + 2 * i)) = M 227 (1244 + (49 + 2 * i))
      unfold em_M
      rw [uM_ne (by omega), uM_ne (by omega), uM_ne (by omega), uM_ne (by omega), uM_ne (by omega), uM_ne (by omega)]
  · show ck_fr em_W 245 K R M 245 K R _
    exact ck_fr_M (lo := 5) (hi := 5) (ck_fr_M (lo := 3) (hi := 3) (ck_fr_M (lo := 0) (hi := 0) (ck_fr_M (lo := 15) (hi := 15) (ck_fr_M (lo := 1293) (hi := 2092) (ck_fr_M (lo := 1293) (hi := 2092) ck_fr_0 (by decide) (by omega) (by omega)) (by decide) (by omega) (by omega)) (by decide) (by omega) (by omega)) (by decide) (by omega) (by omega)) (by decide) (by omega) (by omega)) (by decide) (by omega) (by omega)
  · rcases List.mem_cons.mp hq with rfl | hq
    · exact ck_f1 (Nat.zero_le _) (by rw [v00]; exact ⟨by omega, by omega⟩) (by rw [v00]; exact ⟨by show h1 ≤ _; omega, by show _ ≤ h2; omega, ck_gt1 (by decide) (by rw [s30])⟩)
    rcases List.mem_cons.mp hq with rfl | hq
    · exact ck_f1 (Nat.zero_le _) (by rw [v03]; exact ⟨by omega, by omega⟩) (by rw [v03]; exact ⟨by show (-400 : Int) ≤ _; omega, by show _ ≤ (399 : Int); omega, ck_gt1 (by decide) (by rw [s31]; rfl)⟩)
    rcases List.mem_cons.mp hq with rfl | hq
    · exact ck_f1 (Nat.zero_le _) (by rw [v05]; exact ⟨by omega, by omega⟩) (by rw [v05]; exact ⟨by show (0 : Int) ≤ _; omega, by show _ ≤ (399 : Int); omega, ck_gt1 (by decide) (by rw [s33]; rfl)⟩)
    rw [List.mem_singleton.mp hq]
    exact ck_f1 (show (226 : Nat) ≤ 245 by decide) (by rw [v15]; exact ⟨by omega, by omega⟩) (by rw [v15]; exact ⟨by show (1 : Int) ≤ _; omega, by show _ ≤ (400 : Int); omega, ck_gt1 (by decide) (by rw [s2])⟩)
/-- GlacierMailModel.emits -/
def pg_em0 : ck_Sum := em_S (-1) 10 0 1 1 400
def pg_em1 : ck_Sum := em_S 11 13 2 (-1) 1 399
def pg_em2 : ck_Sum := em_S 14 14 1 0 1 400
def pg_em3 : ck_Sum := em_S 15 16 2 (-1) 1 399
theorem pg_em0_s : ck_Ok pg_O X LX 279 pg_em0 := em_s (by decide) (fun s h h1 h2 h3 => ⟨fun _ => ⟨h3, rfl⟩, fun e => by omega, fun e => by omega⟩) (by decide) (by decide)
theorem pg_em1_s : ck_Ok pg_O X LX 279 pg_em1 := em_s (by decide) (fun s h h1 h2 h3 => ⟨fun e => by omega, fun e => by omega, fun _ _ => ⟨h3, rfl⟩⟩) (by decide) (by decide)
theorem pg_em2_s : ck_Ok pg_O X LX 279 pg_em2 := em_s (by decide) (fun s h h1 h2 h3 => ⟨fun e => by omega, fun _ => ⟨h3, by omega⟩, fun _ e => absurd (by omega) e⟩) (by decide) (by decide)
theorem pg_em3_s : ck_Ok pg_O X LX 279 pg_em3 := em_s (by decide) (fun s h h1 h2 h3 => ⟨fun e => by omega, fun e => by omega, fun _ _ => ⟨h3, rfl⟩⟩) (by decide) (by decide)
end EM
end
/-! 72.rl -/
section
/-! A LINE OF THE LAW that begins, and one that ends, by hand: where its steps begin and end is written down. -/
section RL
variable {X : Int → Int} {LX : Nat} {E : List (Nat × List ck_Sum)} {d : Nat} {W : List (Nat × Int × Int) × List (Nat × Int)} {outs : List ck_Oc} {σ σ0 : Nat → Int} {K0 : gm_K} {R0 : gm_R} {M0 : gm_M}
def rl_A (n : Int) : ck_AL := [some (.inr (.inr (.inl 226))), some (.inl (ck_one n)), some (.inl (ck_one (1245 + 4 * n)))]
noncomputable def rl_F1 (n : Int) (F : ck_F) : ck_F := (F.1, F.2.1, (0, 0, 0, ck_one 0) :: (0, 6, 6, ck_one 1) :: ck_cws [(227, 1247 + 4 * n, 1247 + 4 * n), (0, 0, 1), (0, 6, 6)] F.2.2)
noncomputable def rl_F2 (n : Int) (F : ck_F) : ck_F := (F.1, F.2.1, (0, 0, 0, ck_one 0) :: (0, 2, 2, ck_one (n + 1)) :: (0, 6, 6, ck_one 0) :: ck_cws [(227, 1248 + 4 * n, 1248 + 4 * n), (0, 0, 2), (0, 6, 6)] F.2.2)
def rl_M1 (M : gm_M) (n st : Int) : gm_M := gm_uM (gm_uM (gm_uM (gm_uM M 227 (1247 + 4 * n) st) 0 1 st) 0 0 0) 0 6 1
def rl_M2 (M : gm_M) (n st : Int) : gm_M := gm_uM (gm_uM (gm_uM (gm_uM (gm_uM M 227 (1248 + 4 * n) st) 0 1 st) 0 0 0) 0 2 (n + 1)) 0 6 0
theorem pg_tln {n : Int} (hn : 0 ≤ n ∧ n < 12) : gm_tyv pg_O 227 (1247 + 4 * n) (1247 + 4 * n) 0 400 = true ∧ gm_tyv pg_O 227 (1248 + 4 * n) (1248 + 4 * n) 0 400 = true := by
  obtain ⟨m, rfl⟩ : ∃ m : Nat, n = (m : Int) := ⟨n.toNat, by omega⟩
  have := List.all_eq_true.mp pg_tl m (List.mem_range.mpr (by omega))
  rwa [Bool.and_eq_true] at this
theorem rl_111 {n : Int} {F : ck_F} {f mc ms : Nat} {cuts : List (Nat × ck_C)} {ch : List ck_H} (hcu : ck_cu cuts = true) (hE : ck_nmu pg_O ∧ ck_OkE pg_O X LX E) (hσ : ∀ s, s < 100 → σ s = σ0 s) (hn : 0 ≤ n ∧ n < 12) (hf2 : ck_fi F 0 2 2 = some (ck_one n)) (hw : ck_okW W.1 245 227 (1247 + 4 * n) (1247 + 4 * n) = true ∧ ck_okW W.1 245 0 0 0 = true ∧ ck_okW W.1 245 0 1 1 = true ∧ ck_okW W.1 245 0 6 6 = true)
    (hgo : ck_go pg_O none [] E 274 d 245 W outs cuts f false ch mc ms 123 (rl_A n) [] 245 (rl_F1 n F) = true) (hch : ∀ h ∈ ch, (h.1, h.2.1) ∈ cuts ∧ ck_Hy pg_O X LX 274 d W 245 K0 R0 M0 (ck_Q pg_O σ0 W 245 K0 R0 M0 outs) σ h) : ck_Hy pg_O X LX 274 d W 245 K0 R0 M0 (ck_Q pg_O σ0 W 245 K0 R0 M0 outs) σ (111, (rl_A n, F, 0, .inl 2, true), mc, ms, 245) := by
  intro v _ bc bs L K R M hb1 hb2 hS _
  refine gm_Wp_wk (Nat.le_refl _) hb1 hb2 ?_
  obtain ⟨hF, hl, -, hf, hfr⟩ := hS
  have hf : ck_gf σ F 245 K R M := hf
  have hl : ck_gl σ (rl_A n) L := hl
  have hF : gm_Fx pg_O 245 K R M := hF
  have hfr : ck_fr W 245 K0 R0 M0 245 K R M := hfr
  have hP := pg_p2 hF
  obtain ⟨u0, l0, g0⟩ := hl.2 0 (.inr (.inr (.inl 226))) rfl
  cases g0
  obtain ⟨u2, l2, x, rfl, -, x1, x2, -⟩ := hl.2 2 (.inl (ck_one (1245 + 4 * n))) rfl
  have x1 : 1245 + 4 * n ≤ x := x1
  have x2 : x ≤ 1245 + 4 * n := x2
  have x3 : x = 1245 + 4 * n := by omega
  subst x3
  have q2 := ((ck_fi_s hf hf2).2 2 (Int.le_refl _) (Int.le_refl _)).2
  have q21 : n ≤ M 0 2 := q2.1
  have q22 : M 0 2 ≤ n := q2.2.1
  replace q2 : M 0 2 = n := by omega
  obtain ⟨hJ, ⟨⟨a1, a2, a3⟩, ⟨b1, b2, b3⟩, c1⟩, d1, e1⟩ := hF.2.2.2.2
  generalize hst : M 226 15 = st at *
  have w1 : gm_w (1245 + 4 * n + 2) = 1247 + 4 * n := (w2 (by omega)).trans (by omega)
  refine gm_sz (gm_p_load (pc := 111) (i := .aload_n 0) (sr := 2) (j := 0) (by decide +kernel) rfl l0 rfl) ?_
  refine gm_sz (gm_p_get (pc := 112) (ix := 13) (ci := 11) (j := 1) (by decide +kernel) (md_mo hP).1 (md_mo hP).2 (by decide +kernel)) ?_
  rw [if_pos (show gm_isr 11 1 = true by decide +kernel), md_rf hP md_r.1.1]
  refine gm_sz (gm_p_load (pc := 115) (i := .iload_n 2) (sr := 0) (j := 2) (by decide +kernel) rfl l2 rfl) ?_
  refine gm_sz (gm_p_const (pc := 116) (i := .iconst 2) (v := gm_vi 2) (by decide +kernel) (by decide +kernel)) ?_
  refine gm_sz (gm_p_bin (pc := 117) (i := .iadd) (f := fun x y => x + y) (by decide +kernel) rfl) ?_
  refine gm_sz (gm_p_load (pc := 118) (i := .aload_n 0) (sr := 2) (j := 0) (by decide +kernel) rfl l0 rfl) ?_
  refine gm_sz (gm_p_get (pc := 119) (ix := 224) (ci := 11) (j := 15) (by decide +kernel) (md_mo hP).1 (md_mo hP).2 (by decide +kernel)) ?_
  rw [if_neg (show ¬ gm_isr 11 15 = true by decide +kernel), show M 226 ((15 : Nat) : Int) = st from hst]
  refine gm_sz (gm_p_iast (pc := 122) (by decide +kernel) (md_kd hP md_o.1.2).1.1 (md_kd hP md_o.1.2).1.2 (by rw [w1, (md_kd hP md_o.1.2).2]; omega)) ?_
  rw [w1]
  have v1 : rl_M1 M n st 0 1 = st := by unfold rl_M1; rw [uM_ne (by omega), uM_ne (by omega), uM_at]
  have v0 : rl_M1 M n st 0 0 = 0 := by unfold rl_M1; rw [uM_ne (by omega), uM_at]
  have v6 : rl_M1 M n st 0 6 = 1 := by unfold rl_M1; rw [uM_at]
  have vx : ∀ (c : Nat) (j : Int), ¬ (c = 0 ∧ (j = 0 ∨ j = 1 ∨ j = 6)) → ¬ (c = 227 ∧ j = 1247 + 4 * n) → rl_M1 M n st c j = M c j := fun c j x1 x2 => by
    unfold rl_M1
    rw [uM_ne (by omega), uM_ne (by omega), uM_ne (by omega), uM_ne (by omega)]
  refine gm_Wp_g (M' := rl_M1 M n st) (fun c i hc => by unfold rl_M1; rw [uM_ne (by omega), uM_ne (by omega), uM_ne (by omega)]) ?_
  refine ck_go_s (σ0 := σ0) hcu hE ck_X0 ck_l0 f false ch mc ms 123 (rl_A n) [] 245 (rl_F1 n F) σ L [] K R _ hσ hch ⟨⟨hF.1, hF.2.1, ?_, hF.2.2.2.1, ?_⟩, hl, rfl, ⟨hf.1, hf.2.1, fun q hq => ?_⟩, ?_⟩ hgo
  · exact gm_Ft_M (gm_Ft_M (gm_Ft_M (gm_Ft_M hF.2.2.1 (pg_tln hn).1 (by omega) (by omega)) pg_t0 (Int.le_refl _) (Int.le_refl _)) pg_t0 (Int.le_refl _) (Int.le_refl _)) pg_t0 (Int.le_refl _) (Int.le_refl _)
  · refine ⟨j_J_w (fun k j k1 k2 => vx k j (by omega) (fun x => by have := k2 x.1; omega)) hJ, ?_⟩
    unfold jX
    rw [v0, v1, v6, vx 0 2 (by omega) (by omega), vx 0 3 (by omega) (by omega), vx 0 4 (by omega) (by omega), vx 0 5 (by omega) (by omega), vx 226 9 (by omega) (by omega), vx 226 11 (by omega) (by omega), vx 226 15 (by omega) (by omega), hst]
    refine ⟨⟨⟨a1, a2, a3⟩, ⟨by omega, Int.le_refl _, b3⟩, fun _ => ⟨by rw [q2]; exact hn, ?_⟩⟩, jD_0, jL_e b2 (jL_cg (fun i i1 i2 => vx _ _ (by omega) (by omega)) (fun m m1 m2 m3 => ⟨vx _ _ (by omega) (by omega), vx _ _ (by omega) (by omega)⟩) e1)⟩
    rw [q2, show (1244 : Int) + (3 + 4 * n) = 1247 + 4 * n by omega]
    unfold rl_M1
    rw [uM_ne (by omega), uM_ne (by omega), uM_ne (by omega), uM_at]
  · have hq : q ∈ (rl_F1 n F).2.2 := hq
    unfold rl_F1 at hq
    rcases List.mem_cons.mp hq with rfl | hq
    · exact ck_f1 (Nat.zero_le _) (by rw [v0]; exact ⟨by decide, by decide⟩) (by rw [v0]; exact ck_one_s 0)
    rcases List.mem_cons.mp hq with rfl | hq
    · exact ck_f1 (Nat.zero_le _) (by rw [v6]; exact ⟨by decide, by decide⟩) (by rw [v6]; exact ck_one_s 1)
    exact ck_gf_cws hf (fun c j hx => vx c j (fun e => by
      obtain ⟨rfl, e⟩ := e
      have z1 := hx (0, 0, 1) (by simp)
      have z2 := hx (0, 6, 6) (by simp)
      dsimp only at z1 z2
      omega) (fun e => hx (227, 1247 + 4 * n, 1247 + 4 * n) (by simp) ⟨e.1.symm, by dsimp only; omega, by dsimp only; omega⟩)) q hq
  · exact ck_fr_M (ck_fr_M (ck_fr_M (ck_fr_M hfr (hw.1) (Int.le_refl _) (Int.le_refl _)) (hw.2.2.1) (Int.le_refl _) (Int.le_refl _)) (hw.2.1) (Int.le_refl _) (Int.le_refl _)) (hw.2.2.2) (Int.le_refl _) (Int.le_refl _)
theorem rl_147 {n : Int} {F : ck_F} {f mc ms : Nat} {cuts : List (Nat × ck_C)} {ch : List ck_H} (hcu : ck_cu cuts = true) (hE : ck_nmu pg_O ∧ ck_OkE pg_O X LX E) (hσ : ∀ s, s < 100 → σ s = σ0 s) (hn : 0 ≤ n ∧ n < 12) (hf2 : ck_fi F 0 2 2 = some (ck_one n)) (hf6 : ck_fi F 0 6 6 = some (ck_one 1)) (hw : ck_okW W.1 245 227 (1248 + 4 * n) (1248 + 4 * n) = true ∧ ck_okW W.1 245 0 0 0 = true ∧ ck_okW W.1 245 0 1 1 = true ∧ ck_okW W.1 245 0 2 2 = true ∧ ck_okW W.1 245 0 6 6 = true)
    (hgo : ck_go pg_O none [] E 274 d 245 W outs cuts f false ch mc ms 159 (rl_A n) [] 245 (rl_F2 n F) = true) (hch : ∀ h ∈ ch, (h.1, h.2.1) ∈ cuts ∧ ck_Hy pg_O X LX 274 d W 245 K0 R0 M0 (ck_Q pg_O σ0 W 245 K0 R0 M0 outs) σ h) : ck_Hy pg_O X LX 274 d W 245 K0 R0 M0 (ck_Q pg_O σ0 W 245 K0 R0 M0 outs) σ (147, (rl_A n, F, 0, .inl 2, true), mc, ms, 245) := by
  intro v _ bc bs L K R M hb1 hb2 hS _
  refine gm_Wp_wk (Nat.le_refl _) hb1 hb2 ?_
  obtain ⟨hF, hl, -, hf, hfr⟩ := hS
  have hf : ck_gf σ F 245 K R M := hf
  have hl : ck_gl σ (rl_A n) L := hl
  have hF : gm_Fx pg_O 245 K R M := hF
  have hfr : ck_fr W 245 K0 R0 M0 245 K R M := hfr
  have hP := pg_p2 hF
  obtain ⟨u0, l0, g0⟩ := hl.2 0 (.inr (.inr (.inl 226))) rfl
  cases g0
  obtain ⟨u2, l2, x, rfl, -, x1, x2, -⟩ := hl.2 2 (.inl (ck_one (1245 + 4 * n))) rfl
  have x1 : 1245 + 4 * n ≤ x := x1
  have x2 : x ≤ 1245 + 4 * n := x2
  have x3 : x = 1245 + 4 * n := by omega
  subst x3
  have q2 := ((ck_fi_s hf hf2).2 2 (Int.le_refl _) (Int.le_refl _)).2
  have q21 : n ≤ M 0 2 := q2.1
  have q22 : M 0 2 ≤ n := q2.2.1
  replace q2 : M 0 2 = n := by omega
  have q6 := ((ck_fi_s hf hf6).2 6 (Int.le_refl _) (Int.le_refl _)).2
  have q61 : (1 : Int) ≤ M 0 6 := q6.1
  have q62 : M 0 6 ≤ (1 : Int) := q6.2.1
  obtain ⟨hJ, ⟨⟨a1, a2, a3⟩, ⟨b1, b2, b3⟩, c1⟩, d1, e1⟩ := hF.2.2.2.2
  generalize hst : M 226 15 = st at *
  have w1 : gm_w (1245 + 4 * n + 3) = 1248 + 4 * n := (w2 (by omega)).trans (by omega)
  refine gm_sz (gm_p_load (pc := 147) (i := .aload_n 0) (sr := 2) (j := 0) (by decide +kernel) rfl l0 rfl) ?_
  refine gm_sz (gm_p_get (pc := 148) (ix := 13) (ci := 11) (j := 1) (by decide +kernel) (md_mo hP).1 (md_mo hP).2 (by decide +kernel)) ?_
  rw [if_pos (show gm_isr 11 1 = true by decide +kernel), md_rf hP md_r.1.1]
  refine gm_sz (gm_p_load (pc := 151) (i := .iload_n 2) (sr := 0) (j := 2) (by decide +kernel) rfl l2 rfl) ?_
  refine gm_sz (gm_p_const (pc := 152) (i := .iconst 3) (v := gm_vi 3) (by decide +kernel) (by decide +kernel)) ?_
  refine gm_sz (gm_p_bin (pc := 153) (i := .iadd) (f := fun x y => x + y) (by decide +kernel) rfl) ?_
  refine gm_sz (gm_p_load (pc := 154) (i := .aload_n 0) (sr := 2) (j := 0) (by decide +kernel) rfl l0 rfl) ?_
  refine gm_sz (gm_p_get (pc := 155) (ix := 224) (ci := 11) (j := 15) (by decide +kernel) (md_mo hP).1 (md_mo hP).2 (by decide +kernel)) ?_
  rw [if_neg (show ¬ gm_isr 11 15 = true by decide +kernel), show M 226 ((15 : Nat) : Int) = st from hst]
  refine gm_sz (gm_p_iast (pc := 158) (by decide +kernel) (md_kd hP md_o.1.2).1.1 (md_kd hP md_o.1.2).1.2 (by rw [w1, (md_kd hP md_o.1.2).2]; omega)) ?_
  rw [w1]
  have v1 : rl_M2 M n st 0 1 = st := by unfold rl_M2; rw [uM_ne (by omega), uM_ne (by omega), uM_ne (by omega), uM_at]
  have v0 : rl_M2 M n st 0 0 = 0 := by unfold rl_M2; rw [uM_ne (by omega), uM_ne (by omega), uM_at]
  have v6 : rl_M2 M n st 0 6 = 0 := by unfold rl_M2; rw [uM_at]
  have v2 : rl_M2 M n st 0 2 = n + 1 := by unfold rl_M2; rw [uM_ne (by omega), uM_at]
  have vx : ∀ (c : Nat) (j : Int), ¬ (c = 0 ∧ (j = 0 ∨ j = 1 ∨ j = 2 ∨ j = 6)) → ¬ (c = 227 ∧ j = 1248 + 4 * n) → rl_M2 M n st c j = M c j := fun c j x1 x2 => by
    unfold rl_M2
    rw [uM_ne (by omega), uM_ne (by omega), uM_ne (by omega), uM_ne (by omega), uM_ne (by omega)]
  refine gm_Wp_g (M' := rl_M2 M n st) (fun c i hc => by unfold rl_M2; rw [uM_ne (by omega), uM_ne (by omega), uM_ne (by omega), uM_ne (by omega)]) ?_
  refine ck_go_s (σ0 := σ0) hcu hE ck_X0 ck_l0 f false ch mc ms 159 (rl_A n) [] 245 (rl_F2 n F) σ L [] K R _ hσ hch ⟨⟨hF.1, hF.2.1, ?_, hF.2.2.2.1, ?_⟩, hl, rfl, ⟨hf.1, hf.2.1, fun q hq => ?_⟩, ?_⟩ hgo
  · exact gm_Ft_M (gm_Ft_M (gm_Ft_M (gm_Ft_M (gm_Ft_M hF.2.2.1 (pg_tln hn).2 (by omega) (by omega)) pg_t0 (Int.le_refl _) (Int.le_refl _)) pg_t0 (Int.le_refl _) (Int.le_refl _)) pg_t0 (Int.le_refl _) (Int.le_refl _)) pg_t0 (Int.le_refl _) (Int.le_refl _)
  · refine ⟨j_J_w (fun k j k1 k2 => vx k j (by omega) (fun x => by have := k2 x.1; omega)) hJ, ?_⟩
    unfold jX
    rw [v0, v1, v2, v6, vx 0 3 (by omega) (by omega), vx 0 4 (by omega) (by omega), vx 0 5 (by omega) (by omega), vx 226 9 (by omega) (by omega), vx 226 11 (by omega) (by omega), vx 226 15 (by omega) (by omega), hst]
    rw [q2] at c1 e1
    refine ⟨⟨⟨a1, a2, a3⟩, ⟨by omega, Int.le_refl _, b3⟩, fun h => absurd h (by decide)⟩, jD_0, jL_s (f := fun j => M 227 (1244 + j)) hn.1 b1 b2 b3 e1 d1 (c1 (by omega)).2 ?_ (fun j hj => vx _ _ (by omega) (by omega)) hn.2⟩
    show rl_M2 M n st 227 (1244 + (4 + 4 * n)) = st
    rw [show (1244 : Int) + (4 + 4 * n) = 1248 + 4 * n by omega]
    unfold rl_M2
    rw [uM_ne (by omega), uM_ne (by omega), uM_ne (by omega), uM_ne (by omega), uM_at]
  · have hq : q ∈ (rl_F2 n F).2.2 := hq
    unfold rl_F2 at hq
    rcases List.mem_cons.mp hq with rfl | hq
    · exact ck_f1 (Nat.zero_le _) (by rw [v0]; exact ⟨by decide, by decide⟩) (by rw [v0]; exact ck_one_s 0)
    rcases List.mem_cons.mp hq with rfl | hq
    · exact ck_f1 (Nat.zero_le _) (by rw [v2]; exact ⟨by omega, by omega⟩) (by rw [v2]; exact ck_one_s _)
    rcases List.mem_cons.mp hq with rfl | hq
    · exact ck_f1 (Nat.zero_le _) (by rw [v6]; exact ⟨by decide, by decide⟩) (by rw [v6]; exact ck_one_s 0)
    exact ck_gf_cws hf (fun c j hx => vx c j (fun e => by
      obtain ⟨rfl, e⟩ := e
      have z1 := hx (0, 0, 2) (by simp)
      have z2 := hx (0, 6, 6) (by simp)
      dsimp only at z1 z2
      omega) (fun e => hx (227, 1248 + 4 * n, 1248 + 4 * n) (by simp) ⟨e.1.symm, by dsimp only; omega, by dsimp only; omega⟩)) q hq
  · exact ck_fr_M (ck_fr_M (ck_fr_M (ck_fr_M (ck_fr_M hfr (hw.1) (Int.le_refl _) (Int.le_refl _)) (hw.2.2.1) (Int.le_refl _) (Int.le_refl _)) (hw.2.1) (Int.le_refl _) (Int.le_refl _)) (hw.2.2.2.1) (Int.le_refl _) (Int.le_refl _)) (hw.2.2.2.2) (Int.le_refl _) (Int.le_refl _)
end RL
end
